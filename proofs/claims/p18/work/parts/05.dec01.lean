theorem dX5_sum_13 : decode cX5_sum 13 = .ok (.lload_n 1, 1) := by decide +kernel
theorem dX5_sum_14 : decode cX5_sum 14 = .ok (.aload_n 0, 1) := by decide +kernel
theorem dX5_sum_15 : decode cX5_sum 15 = .ok (.getfield 9, 3) := by decide +kernel
theorem dX5_sum_18 : decode cX5_sum 18 = .ok (.iload_n 3, 1) := by decide +kernel
theorem dX5_sum_19 : decode cX5_sum 19 = .ok (.laload, 1) := by decide +kernel
theorem dX5_sum_20 : decode cX5_sum 20 = .ok (.ladd, 1) := by decide +kernel
theorem dX5_sum_21 : decode cX5_sum 21 = .ok (.lstore_n 1, 1) := by decide +kernel
theorem dX5_sum_22 : decode cX5_sum 22 = .ok (.iinc 3 1, 3) := by decide +kernel
theorem dX5_sum_25 : decode cX5_sum 25 = .ok (.goto (-21), 3) := by decide +kernel
theorem dX5_sum_28 : decode cX5_sum 28 = .ok (.lload_n 1, 1) := by decide +kernel
theorem dX5_sum_29 : decode cX5_sum 29 = .ok (.lreturn, 1) := by decide +kernel
theorem dX5_reduce_0 : decode cX5_reduce 0 = .ok (.iconst 0, 1) := by decide +kernel
theorem dX5_reduce_1 : decode cX5_reduce 1 = .ok (.istore_n 1, 1) := by decide +kernel
theorem dX5_reduce_2 : decode cX5_reduce 2 = .ok (.iload_n 1, 1) := by decide +kernel
theorem dX5_reduce_3 : decode cX5_reduce 3 = .ok (.bipush 63, 2) := by decide +kernel
theorem dX5_reduce_5 : decode cX5_reduce 5 = .ok (.if_icmp .ge 55, 3) := by decide +kernel
theorem dX5_reduce_8 : decode cX5_reduce 8 = .ok (.aload_n 0, 1) := by decide +kernel
theorem dX5_reduce_9 : decode cX5_reduce 9 = .ok (.getfield 19, 3) := by decide +kernel
theorem dX5_reduce_12 : decode cX5_reduce 12 = .ok (.lconst 1, 1) := by decide +kernel
theorem dX5_reduce_13 : decode cX5_reduce 13 = .ok (.lcmp, 1) := by decide +kernel
theorem dX5_reduce_14 : decode cX5_reduce 14 = .ok (.ifCond .le 46, 3) := by decide +kernel
theorem dX5_reduce_17 : decode cX5_reduce 17 = .ok (.aload_n 0, 1) := by decide +kernel
theorem dX5_reduce_18 : decode cX5_reduce 18 = .ok (.getfield 15, 3) := by decide +kernel
theorem dX5_reduce_21 : decode cX5_reduce 21 = .ok (.ldc2_w 77, 3) := by decide +kernel
theorem dX5_reduce_24 : decode cX5_reduce 24 = .ok (.lrem, 1) := by decide +kernel
theorem dX5_reduce_25 : decode cX5_reduce 25 = .ok (.lconst 0, 1) := by decide +kernel
theorem dX5_reduce_26 : decode cX5_reduce 26 = .ok (.lcmp, 1) := by decide +kernel
theorem dX5_reduce_27 : decode cX5_reduce 27 = .ok (.ifCond .ne 33, 3) := by decide +kernel
theorem dX5_reduce_30 : decode cX5_reduce 30 = .ok (.aload_n 0, 1) := by decide +kernel
theorem dX5_reduce_31 : decode cX5_reduce 31 = .ok (.dup, 1) := by decide +kernel
theorem dX5_reduce_32 : decode cX5_reduce 32 = .ok (.getfield 15, 3) := by decide +kernel
theorem dX5_reduce_35 : decode cX5_reduce 35 = .ok (.ldc2_w 77, 3) := by decide +kernel
theorem dX5_reduce_38 : decode cX5_reduce 38 = .ok (.ldiv, 1) := by decide +kernel
theorem dX5_reduce_39 : decode cX5_reduce 39 = .ok (.putfield 15, 3) := by decide +kernel
theorem dX5_reduce_42 : decode cX5_reduce 42 = .ok (.aload_n 0, 1) := by decide +kernel
theorem dX5_reduce_43 : decode cX5_reduce 43 = .ok (.dup, 1) := by decide +kernel
theorem dX5_reduce_44 : decode cX5_reduce 44 = .ok (.getfield 19, 3) := by decide +kernel
theorem dX5_reduce_47 : decode cX5_reduce 47 = .ok (.ldc2_w 77, 3) := by decide +kernel
theorem dX5_reduce_50 : decode cX5_reduce 50 = .ok (.ldiv, 1) := by decide +kernel
theorem dX5_reduce_51 : decode cX5_reduce 51 = .ok (.putfield 19, 3) := by decide +kernel
theorem dX5_reduce_54 : decode cX5_reduce 54 = .ok (.iinc 1 1, 3) := by decide +kernel
theorem dX5_reduce_57 : decode cX5_reduce 57 = .ok (.goto (-55), 3) := by decide +kernel
theorem dX5_reduce_60 : decode cX5_reduce 60 = .ok (.return_, 1) := by decide +kernel
theorem dX6_init_0 : decode cX6_init 0 = .ok (.aload_n 0, 1) := by decide +kernel
theorem dX6_init_1 : decode cX6_init 1 = .ok (.invokespecial 1, 3) := by decide +kernel
theorem dX6_init_4 : decode cX6_init 4 = .ok (.return_, 1) := by decide +kernel
theorem dX6_draw_0 : decode cX6_draw 0 = .ok (.aload_n 0, 1) := by decide +kernel
theorem dX6_draw_1 : decode cX6_draw 1 = .ok (.ldc 7, 2) := by decide +kernel
theorem dX6_draw_3 : decode cX6_draw 3 = .ok (.aload_n 0, 1) := by decide +kernel
theorem dX6_draw_4 : decode cX6_draw 4 = .ok (.getfield 8, 3) := by decide +kernel
theorem dX6_draw_7 : decode cX6_draw 7 = .ok (.imul, 1) := by decide +kernel
theorem dX6_draw_8 : decode cX6_draw 8 = .ok (.sipush 12345, 3) := by decide +kernel
theorem dX6_draw_11 : decode cX6_draw 11 = .ok (.iadd, 1) := by decide +kernel
theorem dX6_draw_12 : decode cX6_draw 12 = .ok (.putfield 8, 3) := by decide +kernel
theorem dX6_draw_15 : decode cX6_draw 15 = .ok (.iload_n 1, 1) := by decide +kernel
theorem dX6_draw_16 : decode cX6_draw 16 = .ok (.ifCond .le 15, 3) := by decide +kernel
theorem dX6_draw_19 : decode cX6_draw 19 = .ok (.aload_n 0, 1) := by decide +kernel
theorem dX6_draw_20 : decode cX6_draw 20 = .ok (.getfield 8, 3) := by decide +kernel
theorem dX6_draw_23 : decode cX6_draw 23 = .ok (.bipush 16, 2) := by decide +kernel
theorem dX6_draw_25 : decode cX6_draw 25 = .ok (.iushr, 1) := by decide +kernel
theorem dX6_draw_26 : decode cX6_draw 26 = .ok (.iload_n 1, 1) := by decide +kernel
theorem dX6_draw_27 : decode cX6_draw 27 = .ok (.irem, 1) := by decide +kernel
theorem dX6_draw_28 : decode cX6_draw 28 = .ok (.goto 4, 3) := by decide +kernel
theorem dX6_draw_31 : decode cX6_draw 31 = .ok (.iconst 0, 1) := by decide +kernel
theorem dX6_draw_32 : decode cX6_draw 32 = .ok (.ireturn, 1) := by decide +kernel
theorem dX7_init_0 : decode cX7_init 0 = .ok (.aload_n 0, 1) := by decide +kernel
theorem dX7_init_1 : decode cX7_init 1 = .ok (.bipush 39, 2) := by decide +kernel
theorem dX7_init_3 : decode cX7_init 3 = .ok (.invokespecial 3, 3) := by decide +kernel
theorem dX7_init_6 : decode cX7_init 6 = .ok (.return_, 1) := by decide +kernel
theorem dX7_worth_0 : decode cX7_worth 0 = .ok (.iload_n 1, 1) := by decide +kernel
theorem dX7_worth_1 : decode cX7_worth 1 = .ok (.iconst 5, 1) := by decide +kernel
theorem dX7_worth_2 : decode cX7_worth 2 = .ok (.irem, 1) := by decide +kernel
theorem dX7_worth_3 : decode cX7_worth 3 = .ok (.tableswitch 71 0 4 #[33, 38, 71, 71, 59], 33) := by decide +kernel
theorem dX7_worth_36 : decode cX7_worth 36 = .ok (.iload_n 2, 1) := by decide +kernel
theorem dX7_worth_37 : decode cX7_worth 37 = .ok (.invokestatic 9, 3) := by decide +kernel
theorem dX7_worth_40 : decode cX7_worth 40 = .ok (.ireturn, 1) := by decide +kernel
theorem dX7_worth_41 : decode cX7_worth 41 = .ok (.iload_n 2, 1) := by decide +kernel
theorem dX7_worth_42 : decode cX7_worth 42 = .ok (.bipush 97, 2) := by decide +kernel
theorem dX7_worth_44 : decode cX7_worth 44 = .ok (.if_icmp .lt 16, 3) := by decide +kernel
theorem dX7_worth_47 : decode cX7_worth 47 = .ok (.iload_n 2, 1) := by decide +kernel
theorem dX7_worth_48 : decode cX7_worth 48 = .ok (.bipush 102, 2) := by decide +kernel
theorem dX7_worth_50 : decode cX7_worth 50 = .ok (.if_icmp .gt 10, 3) := by decide +kernel
theorem dX7_worth_53 : decode cX7_worth 53 = .ok (.iload_n 2, 1) := by decide +kernel
theorem dX7_worth_54 : decode cX7_worth 54 = .ok (.bipush 97, 2) := by decide +kernel
theorem dX7_worth_56 : decode cX7_worth 56 = .ok (.isub, 1) := by decide +kernel
theorem dX7_worth_57 : decode cX7_worth 57 = .ok (.goto 4, 3) := by decide +kernel
theorem dX7_worth_60 : decode cX7_worth 60 = .ok (.iconst (-1), 1) := by decide +kernel
theorem dX7_worth_61 : decode cX7_worth 61 = .ok (.ireturn, 1) := by decide +kernel
theorem dX7_worth_62 : decode cX7_worth 62 = .ok (.iload_n 2, 1) := by decide +kernel
theorem dX7_worth_63 : decode cX7_worth 63 = .ok (.bipush 59, 2) := by decide +kernel
theorem dX7_worth_65 : decode cX7_worth 65 = .ok (.if_icmp .ne 7, 3) := by decide +kernel
theorem dX7_worth_68 : decode cX7_worth 68 = .ok (.iconst 0, 1) := by decide +kernel
theorem dX7_worth_69 : decode cX7_worth 69 = .ok (.goto 4, 3) := by decide +kernel
theorem dX7_worth_72 : decode cX7_worth 72 = .ok (.iconst (-1), 1) := by decide +kernel
theorem dX7_worth_73 : decode cX7_worth 73 = .ok (.ireturn, 1) := by decide +kernel
theorem dX7_worth_74 : decode cX7_worth 74 = .ok (.iload_n 2, 1) := by decide +kernel
theorem dX7_worth_75 : decode cX7_worth 75 = .ok (.bipush 49, 2) := by decide +kernel
theorem dX7_worth_77 : decode cX7_worth 77 = .ok (.if_icmp .lt 16, 3) := by decide +kernel
theorem dX7_worth_80 : decode cX7_worth 80 = .ok (.iload_n 2, 1) := by decide +kernel
theorem dX7_worth_81 : decode cX7_worth 81 = .ok (.bipush 57, 2) := by decide +kernel
theorem dX7_worth_83 : decode cX7_worth 83 = .ok (.if_icmp .gt 10, 3) := by decide +kernel
theorem dX7_worth_86 : decode cX7_worth 86 = .ok (.iload_n 2, 1) := by decide +kernel
theorem dX7_worth_87 : decode cX7_worth 87 = .ok (.bipush 48, 2) := by decide +kernel
theorem dX7_worth_89 : decode cX7_worth 89 = .ok (.isub, 1) := by decide +kernel
theorem dX7_worth_90 : decode cX7_worth 90 = .ok (.goto 4, 3) := by decide +kernel
theorem dX7_worth_93 : decode cX7_worth 93 = .ok (.iconst (-1), 1) := by decide +kernel
theorem dX7_worth_94 : decode cX7_worth 94 = .ok (.ireturn, 1) := by decide +kernel
theorem dX7_kind_0 : decode cX7_kind 0 = .ok (.iload_n 0, 1) := by decide +kernel
theorem dX7_kind_1 : decode cX7_kind 1 = .ok (.lookupswitch 51 #[(100, 45), (112, 47), (115, 49), (116, 43)], 43) := by decide +kernel
theorem dX7_kind_44 : decode cX7_kind 44 = .ok (.iconst 0, 1) := by decide +kernel
theorem dX7_kind_45 : decode cX7_kind 45 = .ok (.ireturn, 1) := by decide +kernel
theorem dX7_kind_46 : decode cX7_kind 46 = .ok (.iconst 1, 1) := by decide +kernel
theorem dX7_kind_47 : decode cX7_kind 47 = .ok (.ireturn, 1) := by decide +kernel
theorem dX7_kind_48 : decode cX7_kind 48 = .ok (.iconst 2, 1) := by decide +kernel
theorem dX7_kind_49 : decode cX7_kind 49 = .ok (.ireturn, 1) := by decide +kernel
theorem dX7_kind_50 : decode cX7_kind 50 = .ok (.iconst 3, 1) := by decide +kernel
theorem dX7_kind_51 : decode cX7_kind 51 = .ok (.ireturn, 1) := by decide +kernel
theorem dX7_kind_52 : decode cX7_kind 52 = .ok (.iconst (-1), 1) := by decide +kernel
theorem dX7_kind_53 : decode cX7_kind 53 = .ok (.ireturn, 1) := by decide +kernel
theorem dX7_thingsIn_0 : decode cX7_thingsIn 0 = .ok (.iload_n 1, 1) := by decide +kernel
theorem dX7_thingsIn_1 : decode cX7_thingsIn 1 = .ok (.ifCond .ne 5, 3) := by decide +kernel
theorem dX7_thingsIn_4 : decode cX7_thingsIn 4 = .ok (.iconst 0, 1) := by decide +kernel
theorem dX7_thingsIn_5 : decode cX7_thingsIn 5 = .ok (.ireturn, 1) := by decide +kernel
theorem dX7_thingsIn_6 : decode cX7_thingsIn 6 = .ok (.iload_n 1, 1) := by decide +kernel
theorem dX7_thingsIn_7 : decode cX7_thingsIn 7 = .ok (.iconst 5, 1) := by decide +kernel
theorem dX7_thingsIn_8 : decode cX7_thingsIn 8 = .ok (.irem, 1) := by decide +kernel
theorem dX7_thingsIn_9 : decode cX7_thingsIn 9 = .ok (.iconst 4, 1) := by decide +kernel
theorem dX7_thingsIn_10 : decode cX7_thingsIn 10 = .ok (.if_icmp .ne 11, 3) := by decide +kernel
theorem dX7_thingsIn_13 : decode cX7_thingsIn 13 = .ok (.iload_n 1, 1) := by decide +kernel
theorem dX7_thingsIn_14 : decode cX7_thingsIn 14 = .ok (.iconst 1, 1) := by decide +kernel
theorem dX7_thingsIn_15 : decode cX7_thingsIn 15 = .ok (.iadd, 1) := by decide +kernel
theorem dX7_thingsIn_16 : decode cX7_thingsIn 16 = .ok (.iconst 5, 1) := by decide +kernel
theorem dX7_thingsIn_17 : decode cX7_thingsIn 17 = .ok (.idiv, 1) := by decide +kernel
theorem dX7_thingsIn_18 : decode cX7_thingsIn 18 = .ok (.goto 4, 3) := by decide +kernel
theorem dX7_thingsIn_21 : decode cX7_thingsIn 21 = .ok (.iconst (-1), 1) := by decide +kernel
theorem dX7_thingsIn_22 : decode cX7_thingsIn 22 = .ok (.ireturn, 1) := by decide +kernel
theorem dX7_told_0 : decode cX7_told 0 = .ok (.aload_n 0, 1) := by decide +kernel
theorem dX7_told_1 : decode cX7_told 1 = .ok (.iconst 5, 1) := by decide +kernel
theorem dX7_told_2 : decode cX7_told 2 = .ok (.iload_n 1, 1) := by decide +kernel
theorem dX7_told_3 : decode cX7_told 3 = .ok (.imul, 1) := by decide +kernel
theorem dX7_told_4 : decode cX7_told 4 = .ok (.iload_n 2, 1) := by decide +kernel
theorem dX7_told_5 : decode cX7_told 5 = .ok (.iadd, 1) := by decide +kernel
theorem dX7_told_6 : decode cX7_told 6 = .ok (.invokevirtual 15, 3) := by decide +kernel
theorem dX7_told_9 : decode cX7_told 9 = .ok (.ireturn, 1) := by decide +kernel
theorem dX8_init_0 : decode cX8_init 0 = .ok (.aload_n 0, 1) := by decide +kernel
theorem dX8_init_1 : decode cX8_init 1 = .ok (.invokespecial 3, 3) := by decide +kernel
theorem dX8_init_4 : decode cX8_init 4 = .ok (.aload_n 0, 1) := by decide +kernel
theorem dX8_init_5 : decode cX8_init 5 = .ok (.bipush 60, 2) := by decide +kernel
theorem dX8_init_7 : decode cX8_init 7 = .ok (.newarray .int, 2) := by decide +kernel
theorem dX8_init_9 : decode cX8_init 9 = .ok (.putfield 9, 3) := by decide +kernel
theorem dX8_init_12 : decode cX8_init 12 = .ok (.aload_n 0, 1) := by decide +kernel
theorem dX8_init_13 : decode cX8_init 13 = .ok (.iconst 1, 1) := by decide +kernel
theorem dX8_init_14 : decode cX8_init 14 = .ok (.putfield 15, 3) := by decide +kernel
theorem dX8_init_17 : decode cX8_init 17 = .ok (.return_, 1) := by decide +kernel
theorem dX8_renew_0 : decode cX8_renew 0 = .ok (.aload_n 0, 1) := by decide +kernel
theorem dX8_renew_1 : decode cX8_renew 1 = .ok (.iconst 0, 1) := by decide +kernel
theorem dX8_renew_2 : decode cX8_renew 2 = .ok (.putfield 15, 3) := by decide +kernel
theorem dX8_renew_5 : decode cX8_renew 5 = .ok (.aload_n 0, 1) := by decide +kernel
theorem dX8_renew_6 : decode cX8_renew 6 = .ok (.iload_n 1, 1) := by decide +kernel
theorem dX8_renew_7 : decode cX8_renew 7 = .ok (.putfield 19, 3) := by decide +kernel
theorem dX8_renew_10 : decode cX8_renew 10 = .ok (.aload_n 0, 1) := by decide +kernel
theorem dX8_renew_11 : decode cX8_renew 11 = .ok (.iconst 0, 1) := by decide +kernel
theorem dX8_renew_12 : decode cX8_renew 12 = .ok (.iload_n 2, 1) := by decide +kernel
theorem dX8_renew_13 : decode cX8_renew 13 = .ok (.bipush 60, 2) := by decide +kernel
theorem dX8_renew_15 : decode cX8_renew 15 = .ok (.invokestatic 23, 3) := by decide +kernel
theorem dX8_renew_18 : decode cX8_renew 18 = .ok (.invokestatic 29, 3) := by decide +kernel
theorem dX8_renew_21 : decode cX8_renew 21 = .ok (.putfield 32, 3) := by decide +kernel
theorem dX8_renew_24 : decode cX8_renew 24 = .ok (.iconst 0, 1) := by decide +kernel
theorem dX8_renew_25 : decode cX8_renew 25 = .ok (.istore_n 3, 1) := by decide +kernel
theorem dX8_renew_26 : decode cX8_renew 26 = .ok (.iload_n 3, 1) := by decide +kernel
theorem dX8_renew_27 : decode cX8_renew 27 = .ok (.bipush 60, 2) := by decide +kernel
theorem dX8_renew_29 : decode cX8_renew 29 = .ok (.if_icmp .ge 16, 3) := by decide +kernel
theorem dX8_renew_32 : decode cX8_renew 32 = .ok (.aload_n 0, 1) := by decide +kernel
theorem dX8_renew_33 : decode cX8_renew 33 = .ok (.getfield 9, 3) := by decide +kernel
theorem dX8_renew_36 : decode cX8_renew 36 = .ok (.iload_n 3, 1) := by decide +kernel
theorem dX8_renew_37 : decode cX8_renew 37 = .ok (.iconst 0, 1) := by decide +kernel
theorem dX8_renew_38 : decode cX8_renew 38 = .ok (.iastore, 1) := by decide +kernel
theorem dX8_renew_39 : decode cX8_renew 39 = .ok (.iinc 3 1, 3) := by decide +kernel
theorem dX8_renew_42 : decode cX8_renew 42 = .ok (.goto (-16), 3) := by decide +kernel
theorem dX8_renew_45 : decode cX8_renew 45 = .ok (.return_, 1) := by decide +kernel
theorem dX8_hasItems_0 : decode cX8_hasItems 0 = .ok (.iload_n 1, 1) := by decide +kernel
theorem dX8_hasItems_1 : decode cX8_hasItems 1 = .ok (.ifCond .lt 29, 3) := by decide +kernel
theorem dX8_hasItems_4 : decode cX8_hasItems 4 = .ok (.iload_n 2, 1) := by decide +kernel
theorem dX8_hasItems_5 : decode cX8_hasItems 5 = .ok (.ifCond .lt 25, 3) := by decide +kernel
theorem dX8_hasItems_8 : decode cX8_hasItems 8 = .ok (.iload_n 2, 1) := by decide +kernel
theorem dX8_hasItems_9 : decode cX8_hasItems 9 = .ok (.aload_n 0, 1) := by decide +kernel
theorem dX8_hasItems_10 : decode cX8_hasItems 10 = .ok (.getfield 32, 3) := by decide +kernel
theorem dX8_hasItems_13 : decode cX8_hasItems 13 = .ok (.if_icmp .gt 17, 3) := by decide +kernel
theorem dX8_hasItems_16 : decode cX8_hasItems 16 = .ok (.iload_n 1, 1) := by decide +kernel
theorem dX8_hasItems_17 : decode cX8_hasItems 17 = .ok (.aload_n 0, 1) := by decide +kernel
theorem dX8_hasItems_18 : decode cX8_hasItems 18 = .ok (.getfield 32, 3) := by decide +kernel
theorem dX8_hasItems_21 : decode cX8_hasItems 21 = .ok (.iload_n 2, 1) := by decide +kernel
theorem dX8_hasItems_22 : decode cX8_hasItems 22 = .ok (.isub, 1) := by decide +kernel
theorem dX8_hasItems_23 : decode cX8_hasItems 23 = .ok (.if_icmp .gt 7, 3) := by decide +kernel
theorem dX8_hasItems_26 : decode cX8_hasItems 26 = .ok (.iconst 1, 1) := by decide +kernel
theorem dX8_hasItems_27 : decode cX8_hasItems 27 = .ok (.goto 4, 3) := by decide +kernel
theorem dX8_hasItems_30 : decode cX8_hasItems 30 = .ok (.iconst 0, 1) := by decide +kernel
theorem dX8_hasItems_31 : decode cX8_hasItems 31 = .ok (.ireturn, 1) := by decide +kernel
theorem dX8_item_0 : decode cX8_item 0 = .ok (.iload_n 1, 1) := by decide +kernel
theorem dX8_item_1 : decode cX8_item 1 = .ok (.ifCond .lt 20, 3) := by decide +kernel
theorem dX8_item_4 : decode cX8_item 4 = .ok (.iload_n 1, 1) := by decide +kernel
theorem dX8_item_5 : decode cX8_item 5 = .ok (.aload_n 0, 1) := by decide +kernel
theorem dX8_item_6 : decode cX8_item 6 = .ok (.getfield 32, 3) := by decide +kernel
theorem dX8_item_9 : decode cX8_item 9 = .ok (.if_icmp .ge 12, 3) := by decide +kernel
theorem dX8_item_12 : decode cX8_item 12 = .ok (.aload_n 0, 1) := by decide +kernel
theorem dX8_item_13 : decode cX8_item 13 = .ok (.getfield 9, 3) := by decide +kernel
theorem dX8_item_16 : decode cX8_item 16 = .ok (.iload_n 1, 1) := by decide +kernel
theorem dX8_item_17 : decode cX8_item 17 = .ok (.iaload, 1) := by decide +kernel
theorem dX8_item_18 : decode cX8_item 18 = .ok (.goto 4, 3) := by decide +kernel
theorem dX8_item_21 : decode cX8_item 21 = .ok (.iconst 0, 1) := by decide +kernel
theorem dX8_item_22 : decode cX8_item 22 = .ok (.ireturn, 1) := by decide +kernel
theorem dX8_put_0 : decode cX8_put 0 = .ok (.iload_n 1, 1) := by decide +kernel
theorem dX8_put_1 : decode cX8_put 1 = .ok (.ifCond .lt 43, 3) := by decide +kernel
theorem dX8_put_4 : decode cX8_put 4 = .ok (.iload_n 1, 1) := by decide +kernel
theorem dX8_put_5 : decode cX8_put 5 = .ok (.aload_n 0, 1) := by decide +kernel
theorem dX8_put_6 : decode cX8_put 6 = .ok (.getfield 32, 3) := by decide +kernel
theorem dX8_put_9 : decode cX8_put 9 = .ok (.if_icmp .ge 35, 3) := by decide +kernel
theorem dX8_put_12 : decode cX8_put 12 = .ok (.aload_n 0, 1) := by decide +kernel
theorem dX8_put_13 : decode cX8_put 13 = .ok (.getfield 9, 3) := by decide +kernel
theorem dX8_put_16 : decode cX8_put 16 = .ok (.iload_n 1, 1) := by decide +kernel
theorem dX8_put_17 : decode cX8_put 17 = .ok (.aload_n 0, 1) := by decide +kernel
theorem dX8_put_18 : decode cX8_put 18 = .ok (.getfield 19, 3) := by decide +kernel
theorem dX8_put_21 : decode cX8_put 21 = .ok (.ifCond .ne 8, 3) := by decide +kernel
theorem dX8_put_24 : decode cX8_put 24 = .ok (.iload_n 2, 1) := by decide +kernel
theorem dX8_put_25 : decode cX8_put 25 = .ok (.i2b, 1) := by decide +kernel
theorem dX8_put_26 : decode cX8_put 26 = .ok (.goto 17, 3) := by decide +kernel
theorem dX8_put_29 : decode cX8_put 29 = .ok (.aload_n 0, 1) := by decide +kernel
theorem dX8_put_30 : decode cX8_put 30 = .ok (.getfield 19, 3) := by decide +kernel
theorem dX8_put_33 : decode cX8_put 33 = .ok (.iconst 1, 1) := by decide +kernel
theorem dX8_put_34 : decode cX8_put 34 = .ok (.if_icmp .ne 8, 3) := by decide +kernel
theorem dX8_put_37 : decode cX8_put 37 = .ok (.iload_n 2, 1) := by decide +kernel
theorem dX8_put_38 : decode cX8_put 38 = .ok (.i2s, 1) := by decide +kernel
theorem dX8_put_39 : decode cX8_put 39 = .ok (.goto 4, 3) := by decide +kernel
theorem dX8_put_42 : decode cX8_put 42 = .ok (.iload_n 2, 1) := by decide +kernel
theorem dX8_put_43 : decode cX8_put 43 = .ok (.iastore, 1) := by decide +kernel
theorem dX8_put_44 : decode cX8_put 44 = .ok (.return_, 1) := by decide +kernel
theorem dX9_init_0 : decode cX9_init 0 = .ok (.aload_n 0, 1) := by decide +kernel
theorem dX9_init_1 : decode cX9_init 1 = .ok (.invokespecial 3, 3) := by decide +kernel
theorem dX9_init_4 : decode cX9_init 4 = .ok (.aload_n 0, 1) := by decide +kernel
theorem dX9_init_5 : decode cX9_init 5 = .ok (.iconst (-1), 1) := by decide +kernel
theorem dX9_init_6 : decode cX9_init 6 = .ok (.putfield 9, 3) := by decide +kernel
theorem dX9_init_9 : decode cX9_init 9 = .ok (.aload_n 0, 1) := by decide +kernel
theorem dX9_init_10 : decode cX9_init 10 = .ok (.iconst 0, 1) := by decide +kernel
theorem dX9_init_11 : decode cX9_init 11 = .ok (.iload_n 1, 1) := by decide +kernel
theorem dX9_init_12 : decode cX9_init 12 = .ok (.invokestatic 15, 3) := by decide +kernel
theorem dX9_init_15 : decode cX9_init 15 = .ok (.newarray .int, 2) := by decide +kernel
theorem dX9_init_17 : decode cX9_init 17 = .ok (.putfield 21, 3) := by decide +kernel
theorem dX9_init_20 : decode cX9_init 20 = .ok (.return_, 1) := by decide +kernel
theorem dX9_isFull_0 : decode cX9_isFull 0 = .ok (.aload_n 0, 1) := by decide +kernel
theorem dX9_isFull_1 : decode cX9_isFull 1 = .ok (.getfield 25, 3) := by decide +kernel
theorem dX9_isFull_4 : decode cX9_isFull 4 = .ok (.aload_n 0, 1) := by decide +kernel
theorem dX9_isFull_5 : decode cX9_isFull 5 = .ok (.getfield 21, 3) := by decide +kernel
theorem dX9_isFull_8 : decode cX9_isFull 8 = .ok (.arraylength, 1) := by decide +kernel
theorem dX9_isFull_9 : decode cX9_isFull 9 = .ok (.if_icmp .lt 7, 3) := by decide +kernel
theorem dX9_isFull_12 : decode cX9_isFull 12 = .ok (.iconst 1, 1) := by decide +kernel
theorem dX9_isFull_13 : decode cX9_isFull 13 = .ok (.goto 4, 3) := by decide +kernel
theorem dX9_isFull_16 : decode cX9_isFull 16 = .ok (.iconst 0, 1) := by decide +kernel
theorem dX9_isFull_17 : decode cX9_isFull 17 = .ok (.ireturn, 1) := by decide +kernel
theorem dX9_append_0 : decode cX9_append 0 = .ok (.aload_n 0, 1) := by decide +kernel
theorem dX9_append_1 : decode cX9_append 1 = .ok (.getfield 25, 3) := by decide +kernel
theorem dX9_append_4 : decode cX9_append 4 = .ok (.ifCond .lt 47, 3) := by decide +kernel
theorem dX9_append_7 : decode cX9_append 7 = .ok (.aload_n 0, 1) := by decide +kernel
theorem dX9_append_8 : decode cX9_append 8 = .ok (.getfield 25, 3) := by decide +kernel
theorem dX9_append_11 : decode cX9_append 11 = .ok (.aload_n 0, 1) := by decide +kernel
theorem dX9_append_12 : decode cX9_append 12 = .ok (.getfield 21, 3) := by decide +kernel
theorem dX9_append_15 : decode cX9_append 15 = .ok (.arraylength, 1) := by decide +kernel
theorem dX9_append_16 : decode cX9_append 16 = .ok (.if_icmp .ge 35, 3) := by decide +kernel
theorem dX9_append_19 : decode cX9_append 19 = .ok (.aload_n 0, 1) := by decide +kernel
theorem dX9_append_20 : decode cX9_append 20 = .ok (.getfield 21, 3) := by decide +kernel
theorem dX9_append_23 : decode cX9_append 23 = .ok (.aload_n 0, 1) := by decide +kernel
theorem dX9_append_24 : decode cX9_append 24 = .ok (.getfield 25, 3) := by decide +kernel
theorem dX9_append_27 : decode cX9_append 27 = .ok (.aload_n 0, 1) := by decide +kernel
theorem dX9_append_28 : decode cX9_append 28 = .ok (.aload_n 0, 1) := by decide +kernel
theorem dX9_append_29 : decode cX9_append 29 = .ok (.getfield 25, 3) := by decide +kernel
theorem dX9_append_32 : decode cX9_append 32 = .ok (.iload_n 1, 1) := by decide +kernel
theorem dX9_append_33 : decode cX9_append 33 = .ok (.invokevirtual 28, 3) := by decide +kernel
theorem dX9_append_36 : decode cX9_append 36 = .ok (.iastore, 1) := by decide +kernel
theorem dX9_append_37 : decode cX9_append 37 = .ok (.aload_n 0, 1) := by decide +kernel
theorem dX9_append_38 : decode cX9_append 38 = .ok (.dup, 1) := by decide +kernel
theorem dX9_append_39 : decode cX9_append 39 = .ok (.getfield 25, 3) := by decide +kernel
theorem dX9_append_42 : decode cX9_append 42 = .ok (.iconst 1, 1) := by decide +kernel
theorem dX9_append_43 : decode cX9_append 43 = .ok (.iadd, 1) := by decide +kernel
theorem dX9_append_44 : decode cX9_append 44 = .ok (.putfield 25, 3) := by decide +kernel
theorem dX9_append_47 : decode cX9_append 47 = .ok (.aload_n 0, 1) := by decide +kernel
theorem dX9_append_48 : decode cX9_append 48 = .ok (.invokevirtual 31, 3) := by decide +kernel
theorem dX9_append_51 : decode cX9_append 51 = .ok (.return_, 1) := by decide +kernel
theorem dX9_shorten_0 : decode cX9_shorten 0 = .ok (.aload_n 0, 1) := by decide +kernel
theorem dX9_shorten_1 : decode cX9_shorten 1 = .ok (.iconst 0, 1) := by decide +kernel
theorem dX9_shorten_2 : decode cX9_shorten 2 = .ok (.iload_n 1, 1) := by decide +kernel
theorem dX9_shorten_3 : decode cX9_shorten 3 = .ok (.aload_n 0, 1) := by decide +kernel
theorem dX9_shorten_4 : decode cX9_shorten 4 = .ok (.getfield 25, 3) := by decide +kernel
theorem dX9_shorten_7 : decode cX9_shorten 7 = .ok (.invokestatic 34, 3) := by decide +kernel
theorem dX9_shorten_10 : decode cX9_shorten 10 = .ok (.invokestatic 15, 3) := by decide +kernel
theorem dX9_shorten_13 : decode cX9_shorten 13 = .ok (.putfield 25, 3) := by decide +kernel
theorem dX9_shorten_16 : decode cX9_shorten 16 = .ok (.aload_n 0, 1) := by decide +kernel
theorem dX9_shorten_17 : decode cX9_shorten 17 = .ok (.invokevirtual 31, 3) := by decide +kernel
theorem dX9_shorten_20 : decode cX9_shorten 20 = .ok (.return_, 1) := by decide +kernel
theorem dX9_valueAt_0 : decode cX9_valueAt 0 = .ok (.iload_n 1, 1) := by decide +kernel
theorem dX9_valueAt_1 : decode cX9_valueAt 1 = .ok (.ifCond .lt 21, 3) := by decide +kernel
theorem dX9_valueAt_4 : decode cX9_valueAt 4 = .ok (.iload_n 1, 1) := by decide +kernel
theorem dX9_valueAt_5 : decode cX9_valueAt 5 = .ok (.aload_n 0, 1) := by decide +kernel
theorem dX9_valueAt_6 : decode cX9_valueAt 6 = .ok (.getfield 21, 3) := by decide +kernel
theorem dX9_valueAt_9 : decode cX9_valueAt 9 = .ok (.arraylength, 1) := by decide +kernel
theorem dX9_valueAt_10 : decode cX9_valueAt 10 = .ok (.if_icmp .ge 12, 3) := by decide +kernel
theorem dX9_valueAt_13 : decode cX9_valueAt 13 = .ok (.aload_n 0, 1) := by decide +kernel
theorem dX9_valueAt_14 : decode cX9_valueAt 14 = .ok (.getfield 21, 3) := by decide +kernel
theorem dX9_valueAt_17 : decode cX9_valueAt 17 = .ok (.iload_n 1, 1) := by decide +kernel
theorem dX9_valueAt_18 : decode cX9_valueAt 18 = .ok (.iaload, 1) := by decide +kernel
theorem dX9_valueAt_19 : decode cX9_valueAt 19 = .ok (.goto 4, 3) := by decide +kernel
theorem dX9_valueAt_22 : decode cX9_valueAt 22 = .ok (.iconst (-1), 1) := by decide +kernel
theorem dX9_valueAt_23 : decode cX9_valueAt 23 = .ok (.ireturn, 1) := by decide +kernel
theorem dX9_has_0 : decode cX9_has 0 = .ok (.iload_n 1, 1) := by decide +kernel
theorem dX9_has_1 : decode cX9_has 1 = .ok (.ifCond .lt 15, 3) := by decide +kernel
theorem dX9_has_4 : decode cX9_has 4 = .ok (.iload_n 1, 1) := by decide +kernel
theorem dX9_has_5 : decode cX9_has 5 = .ok (.aload_n 0, 1) := by decide +kernel
theorem dX9_has_6 : decode cX9_has 6 = .ok (.getfield 37, 3) := by decide +kernel
theorem dX9_has_9 : decode cX9_has 9 = .ok (.if_icmp .ge 7, 3) := by decide +kernel
theorem dX9_has_12 : decode cX9_has 12 = .ok (.iconst 1, 1) := by decide +kernel
theorem dX9_has_13 : decode cX9_has 13 = .ok (.goto 4, 3) := by decide +kernel
theorem dX9_has_16 : decode cX9_has 16 = .ok (.iconst 0, 1) := by decide +kernel
theorem dX9_has_17 : decode cX9_has 17 = .ok (.ireturn, 1) := by decide +kernel
theorem dX9_readAgain_0 : decode cX9_readAgain 0 = .ok (.aload_n 0, 1) := by decide +kernel
theorem dX9_readAgain_1 : decode cX9_readAgain 1 = .ok (.iconst (-1), 1) := by decide +kernel
theorem dX9_readAgain_2 : decode cX9_readAgain 2 = .ok (.putfield 9, 3) := by decide +kernel
theorem dX9_readAgain_5 : decode cX9_readAgain 5 = .ok (.iconst 0, 1) := by decide +kernel
theorem dX9_readAgain_6 : decode cX9_readAgain 6 = .ok (.istore_n 1, 1) := by decide +kernel
theorem dX9_readAgain_7 : decode cX9_readAgain 7 = .ok (.iload_n 1, 1) := by decide +kernel
theorem dX9_readAgain_8 : decode cX9_readAgain 8 = .ok (.aload_n 0, 1) := by decide +kernel
theorem dX9_readAgain_9 : decode cX9_readAgain 9 = .ok (.getfield 25, 3) := by decide +kernel
theorem dX9_readAgain_12 : decode cX9_readAgain 12 = .ok (.if_icmp .ge 31, 3) := by decide +kernel
theorem dX9_readAgain_15 : decode cX9_readAgain 15 = .ok (.aload_n 0, 1) := by decide +kernel
theorem dX9_readAgain_16 : decode cX9_readAgain 16 = .ok (.getfield 9, 3) := by decide +kernel
theorem dX9_readAgain_19 : decode cX9_readAgain 19 = .ok (.iconst (-1), 1) := by decide +kernel
theorem dX9_readAgain_20 : decode cX9_readAgain 20 = .ok (.if_icmp .ne 23, 3) := by decide +kernel
theorem dX9_readAgain_23 : decode cX9_readAgain 23 = .ok (.aload_n 0, 1) := by decide +kernel
theorem dX9_readAgain_24 : decode cX9_readAgain 24 = .ok (.iload_n 1, 1) := by decide +kernel
theorem dX9_readAgain_25 : decode cX9_readAgain 25 = .ok (.invokevirtual 40, 3) := by decide +kernel
theorem dX9_readAgain_28 : decode cX9_readAgain 28 = .ok (.iconst (-1), 1) := by decide +kernel
theorem dX9_readAgain_29 : decode cX9_readAgain 29 = .ok (.if_icmp .ne 8, 3) := by decide +kernel
theorem dX9_readAgain_32 : decode cX9_readAgain 32 = .ok (.aload_n 0, 1) := by decide +kernel
theorem dX9_readAgain_33 : decode cX9_readAgain 33 = .ok (.iload_n 1, 1) := by decide +kernel
theorem dX9_readAgain_34 : decode cX9_readAgain 34 = .ok (.putfield 9, 3) := by decide +kernel
theorem dX9_readAgain_37 : decode cX9_readAgain 37 = .ok (.iinc 1 1, 3) := by decide +kernel
theorem dX9_readAgain_40 : decode cX9_readAgain 40 = .ok (.goto (-33), 3) := by decide +kernel
theorem dX9_readAgain_43 : decode cX9_readAgain 43 = .ok (.aload_n 0, 1) := by decide +kernel
theorem dX9_readAgain_44 : decode cX9_readAgain 44 = .ok (.aload_n 0, 1) := by decide +kernel
theorem dX9_readAgain_45 : decode cX9_readAgain 45 = .ok (.getfield 25, 3) := by decide +kernel
theorem dX9_readAgain_48 : decode cX9_readAgain 48 = .ok (.invokevirtual 44, 3) := by decide +kernel
theorem dX9_readAgain_51 : decode cX9_readAgain 51 = .ok (.istore_n 1, 1) := by decide +kernel
theorem dX9_readAgain_52 : decode cX9_readAgain 52 = .ok (.aload_n 0, 1) := by decide +kernel
theorem dX9_readAgain_53 : decode cX9_readAgain 53 = .ok (.getfield 9, 3) := by decide +kernel
theorem dX9_readAgain_56 : decode cX9_readAgain 56 = .ok (.iconst (-1), 1) := by decide +kernel
theorem dX9_readAgain_57 : decode cX9_readAgain 57 = .ok (.if_icmp .ne 16, 3) := by decide +kernel
theorem dX9_readAgain_60 : decode cX9_readAgain 60 = .ok (.iload_n 1, 1) := by decide +kernel
theorem dX9_readAgain_61 : decode cX9_readAgain 61 = .ok (.iconst (-1), 1) := by decide +kernel
theorem dX9_readAgain_62 : decode cX9_readAgain 62 = .ok (.if_icmp .ne 11, 3) := by decide +kernel
theorem dX9_readAgain_65 : decode cX9_readAgain 65 = .ok (.aload_n 0, 1) := by decide +kernel
theorem dX9_readAgain_66 : decode cX9_readAgain 66 = .ok (.aload_n 0, 1) := by decide +kernel
theorem dX9_readAgain_67 : decode cX9_readAgain 67 = .ok (.getfield 25, 3) := by decide +kernel
theorem dX9_readAgain_70 : decode cX9_readAgain 70 = .ok (.putfield 9, 3) := by decide +kernel
theorem dX9_readAgain_73 : decode cX9_readAgain 73 = .ok (.aload_n 0, 1) := by decide +kernel
theorem dX9_readAgain_74 : decode cX9_readAgain 74 = .ok (.aload_n 0, 1) := by decide +kernel
theorem dX9_readAgain_75 : decode cX9_readAgain 75 = .ok (.getfield 9, 3) := by decide +kernel
theorem dX9_readAgain_78 : decode cX9_readAgain 78 = .ok (.iconst (-1), 1) := by decide +kernel
theorem dX9_readAgain_79 : decode cX9_readAgain 79 = .ok (.if_icmp .ne 7, 3) := by decide +kernel
theorem dX9_readAgain_82 : decode cX9_readAgain 82 = .ok (.iload_n 1, 1) := by decide +kernel
theorem dX9_readAgain_83 : decode cX9_readAgain 83 = .ok (.goto 4, 3) := by decide +kernel
theorem dX9_readAgain_86 : decode cX9_readAgain 86 = .ok (.iconst 0, 1) := by decide +kernel
theorem dX9_readAgain_87 : decode cX9_readAgain 87 = .ok (.putfield 37, 3) := by decide +kernel
theorem dX9_readAgain_90 : decode cX9_readAgain 90 = .ok (.return_, 1) := by decide +kernel
theorem dX10_init_0 : decode cX10_init 0 = .ok (.aload_n 0, 1) := by decide +kernel
theorem dX10_init_1 : decode cX10_init 1 = .ok (.invokespecial 3, 3) := by decide +kernel
theorem dX10_init_4 : decode cX10_init 4 = .ok (.aload_n 0, 1) := by decide +kernel
theorem dX10_init_5 : decode cX10_init 5 = .ok (.new 9, 3) := by decide +kernel
theorem dX10_init_8 : decode cX10_init 8 = .ok (.dup, 1) := by decide +kernel
theorem dX10_init_9 : decode cX10_init 9 = .ok (.invokespecial 11, 3) := by decide +kernel
theorem dX10_init_12 : decode cX10_init 12 = .ok (.putfield 12, 3) := by decide +kernel
theorem dX10_init_15 : decode cX10_init 15 = .ok (.aload_n 0, 1) := by decide +kernel
theorem dX10_init_16 : decode cX10_init 16 = .ok (.new 9, 3) := by decide +kernel
theorem dX10_init_19 : decode cX10_init 19 = .ok (.dup, 1) := by decide +kernel
theorem dX10_init_20 : decode cX10_init 20 = .ok (.invokespecial 11, 3) := by decide +kernel
theorem dX10_init_23 : decode cX10_init 23 = .ok (.putfield 18, 3) := by decide +kernel
theorem dX10_init_26 : decode cX10_init 26 = .ok (.aload_n 0, 1) := by decide +kernel
theorem dX10_init_27 : decode cX10_init 27 = .ok (.aload_n 0, 1) := by decide +kernel
theorem dX10_init_28 : decode cX10_init 28 = .ok (.getfield 12, 3) := by decide +kernel
theorem dX10_init_31 : decode cX10_init 31 = .ok (.putfield 21, 3) := by decide +kernel
theorem dX10_init_34 : decode cX10_init 34 = .ok (.aload_n 0, 1) := by decide +kernel
theorem dX10_init_35 : decode cX10_init 35 = .ok (.aload_n 0, 1) := by decide +kernel
theorem dX10_init_36 : decode cX10_init 36 = .ok (.getfield 18, 3) := by decide +kernel
theorem dX10_init_39 : decode cX10_init 39 = .ok (.putfield 24, 3) := by decide +kernel
theorem dX10_init_42 : decode cX10_init 42 = .ok (.aload_n 0, 1) := by decide +kernel
theorem dX10_init_43 : decode cX10_init 43 = .ok (.aload_n 1, 1) := by decide +kernel
theorem dX10_init_44 : decode cX10_init 44 = .ok (.putfield 27, 3) := by decide +kernel
theorem dX10_init_47 : decode cX10_init 47 = .ok (.aload_n 0, 1) := by decide +kernel
theorem dX10_init_48 : decode cX10_init 48 = .ok (.aload_n 2, 1) := by decide +kernel
theorem dX10_init_49 : decode cX10_init 49 = .ok (.putfield 31, 3) := by decide +kernel
theorem dX10_init_52 : decode cX10_init 52 = .ok (.aload_n 0, 1) := by decide +kernel
theorem dX10_init_53 : decode cX10_init 53 = .ok (.aload_n 3, 1) := by decide +kernel
theorem dX10_init_54 : decode cX10_init 54 = .ok (.putfield 35, 3) := by decide +kernel
theorem dX10_init_57 : decode cX10_init 57 = .ok (.return_, 1) := by decide +kernel
theorem dX10_board_0 : decode cX10_board 0 = .ok (.aload_n 0, 1) := by decide +kernel
theorem dX10_board_1 : decode cX10_board 1 = .ok (.aload_n 0, 1) := by decide +kernel
theorem dX10_board_2 : decode cX10_board 2 = .ok (.getfield 31, 3) := by decide +kernel
theorem dX10_board_5 : decode cX10_board 5 = .ok (.iload_n 1, 1) := by decide +kernel
theorem dX10_board_6 : decode cX10_board 6 = .ok (.invokevirtual 39, 3) := by decide +kernel
theorem dX10_board_9 : decode cX10_board 9 = .ok (.ifCond .eq 29, 3) := by decide +kernel
theorem dX10_board_12 : decode cX10_board 12 = .ok (.aload_n 0, 1) := by decide +kernel
theorem dX10_board_13 : decode cX10_board 13 = .ok (.getfield 35, 3) := by decide +kernel
theorem dX10_board_16 : decode cX10_board 16 = .ok (.iload_n 2, 1) := by decide +kernel
theorem dX10_board_17 : decode cX10_board 17 = .ok (.invokevirtual 45, 3) := by decide +kernel
theorem dX10_board_20 : decode cX10_board 20 = .ok (.ifCond .eq 18, 3) := by decide +kernel
theorem dX10_board_23 : decode cX10_board 23 = .ok (.aload_n 0, 1) := by decide +kernel
theorem dX10_board_24 : decode cX10_board 24 = .ok (.getfield 35, 3) := by decide +kernel
theorem dX10_board_27 : decode cX10_board 27 = .ok (.iload_n 3, 1) := by decide +kernel
theorem dX10_board_28 : decode cX10_board 28 = .ok (.invokevirtual 45, 3) := by decide +kernel
theorem dX10_board_31 : decode cX10_board 31 = .ok (.ifCond .eq 7, 3) := by decide +kernel
theorem dX10_board_34 : decode cX10_board 34 = .ok (.iconst 1, 1) := by decide +kernel
theorem dX10_board_35 : decode cX10_board 35 = .ok (.goto 4, 3) := by decide +kernel
theorem dX10_board_38 : decode cX10_board 38 = .ok (.iconst 0, 1) := by decide +kernel
theorem dX10_board_39 : decode cX10_board 39 = .ok (.putfield 48, 3) := by decide +kernel
theorem dX10_board_42 : decode cX10_board 42 = .ok (.aload_n 0, 1) := by decide +kernel
theorem dX10_board_43 : decode cX10_board 43 = .ok (.iconst 0, 1) := by decide +kernel
theorem dX10_board_44 : decode cX10_board 44 = .ok (.putfield 52, 3) := by decide +kernel
theorem dX10_board_47 : decode cX10_board 47 = .ok (.aload_n 0, 1) := by decide +kernel
theorem dX10_board_48 : decode cX10_board 48 = .ok (.getfield 48, 3) := by decide +kernel
theorem dX10_board_51 : decode cX10_board 51 = .ok (.ifCond .eq 139, 3) := by decide +kernel
theorem dX10_board_54 : decode cX10_board 54 = .ok (.aload_n 0, 1) := by decide +kernel
theorem dX10_board_55 : decode cX10_board 55 = .ok (.aload_n 0, 1) := by decide +kernel
theorem dX10_board_56 : decode cX10_board 56 = .ok (.getfield 31, 3) := by decide +kernel
theorem dX10_board_59 : decode cX10_board 59 = .ok (.iload_n 1, 1) := by decide +kernel
theorem dX10_board_60 : decode cX10_board 60 = .ok (.iconst 0, 1) := by decide +kernel
theorem dX10_board_61 : decode cX10_board 61 = .ok (.invokevirtual 56, 3) := by decide +kernel
theorem dX10_board_64 : decode cX10_board 64 = .ok (.putfield 60, 3) := by decide +kernel
theorem dX10_board_67 : decode cX10_board 67 = .ok (.aload_n 0, 1) := by decide +kernel
theorem dX10_board_68 : decode cX10_board 68 = .ok (.aload_n 0, 1) := by decide +kernel
theorem dX10_board_69 : decode cX10_board 69 = .ok (.getfield 31, 3) := by decide +kernel
theorem dX10_board_72 : decode cX10_board 72 = .ok (.iload_n 1, 1) := by decide +kernel
theorem dX10_board_73 : decode cX10_board 73 = .ok (.iconst 1, 1) := by decide +kernel
theorem dX10_board_74 : decode cX10_board 74 = .ok (.invokevirtual 56, 3) := by decide +kernel
theorem dX10_board_77 : decode cX10_board 77 = .ok (.putfield 63, 3) := by decide +kernel
theorem dX10_board_80 : decode cX10_board 80 = .ok (.aload_n 0, 1) := by decide +kernel
theorem dX10_board_81 : decode cX10_board 81 = .ok (.iconst 5, 1) := by decide +kernel
theorem dX10_board_82 : decode cX10_board 82 = .ok (.aload_n 0, 1) := by decide +kernel
theorem dX10_board_83 : decode cX10_board 83 = .ok (.getfield 31, 3) := by decide +kernel
theorem dX10_board_86 : decode cX10_board 86 = .ok (.iload_n 1, 1) := by decide +kernel
theorem dX10_board_87 : decode cX10_board 87 = .ok (.iconst 2, 1) := by decide +kernel
theorem dX10_board_88 : decode cX10_board 88 = .ok (.invokevirtual 56, 3) := by decide +kernel
theorem dX10_board_91 : decode cX10_board 91 = .ok (.imul, 1) := by decide +kernel
theorem dX10_board_92 : decode cX10_board 92 = .ok (.putfield 66, 3) := by decide +kernel
theorem dX10_board_95 : decode cX10_board 95 = .ok (.aload_n 0, 1) := by decide +kernel
theorem dX10_board_96 : decode cX10_board 96 = .ok (.aload_n 0, 1) := by decide +kernel
theorem dX10_board_97 : decode cX10_board 97 = .ok (.getfield 31, 3) := by decide +kernel
theorem dX10_board_100 : decode cX10_board 100 = .ok (.iload_n 1, 1) := by decide +kernel
theorem dX10_board_101 : decode cX10_board 101 = .ok (.iconst 3, 1) := by decide +kernel
theorem dX10_board_102 : decode cX10_board 102 = .ok (.invokevirtual 56, 3) := by decide +kernel
theorem dX10_board_105 : decode cX10_board 105 = .ok (.putfield 69, 3) := by decide +kernel
theorem dX10_board_108 : decode cX10_board 108 = .ok (.aload_n 0, 1) := by decide +kernel
theorem dX10_board_109 : decode cX10_board 109 = .ok (.getfield 12, 3) := by decide +kernel
theorem dX10_board_112 : decode cX10_board 112 = .ok (.aload_n 0, 1) := by decide +kernel
theorem dX10_board_113 : decode cX10_board 113 = .ok (.getfield 35, 3) := by decide +kernel
theorem dX10_board_116 : decode cX10_board 116 = .ok (.iload_n 2, 1) := by decide +kernel
theorem dX10_board_117 : decode cX10_board 117 = .ok (.iconst 0, 1) := by decide +kernel
theorem dX10_board_118 : decode cX10_board 118 = .ok (.invokevirtual 72, 3) := by decide +kernel
theorem dX10_board_121 : decode cX10_board 121 = .ok (.putfield 73, 3) := by decide +kernel
theorem dX10_board_124 : decode cX10_board 124 = .ok (.aload_n 0, 1) := by decide +kernel
theorem dX10_board_125 : decode cX10_board 125 = .ok (.getfield 12, 3) := by decide +kernel
theorem dX10_board_128 : decode cX10_board 128 = .ok (.aload_n 0, 1) := by decide +kernel
theorem dX10_board_129 : decode cX10_board 129 = .ok (.getfield 35, 3) := by decide +kernel
theorem dX10_board_132 : decode cX10_board 132 = .ok (.iload_n 2, 1) := by decide +kernel
theorem dX10_board_133 : decode cX10_board 133 = .ok (.iconst 1, 1) := by decide +kernel
theorem dX10_board_134 : decode cX10_board 134 = .ok (.invokevirtual 72, 3) := by decide +kernel
theorem dX10_board_137 : decode cX10_board 137 = .ok (.putfield 75, 3) := by decide +kernel
theorem dX10_board_140 : decode cX10_board 140 = .ok (.aload_n 0, 1) := by decide +kernel
theorem dX10_board_141 : decode cX10_board 141 = .ok (.getfield 18, 3) := by decide +kernel
theorem dX10_board_144 : decode cX10_board 144 = .ok (.aload_n 0, 1) := by decide +kernel
theorem dX10_board_145 : decode cX10_board 145 = .ok (.getfield 35, 3) := by decide +kernel
theorem dX10_board_148 : decode cX10_board 148 = .ok (.iload_n 3, 1) := by decide +kernel
theorem dX10_board_149 : decode cX10_board 149 = .ok (.iconst 0, 1) := by decide +kernel
theorem dX10_board_150 : decode cX10_board 150 = .ok (.invokevirtual 72, 3) := by decide +kernel
theorem dX10_board_153 : decode cX10_board 153 = .ok (.putfield 73, 3) := by decide +kernel
theorem dX10_board_156 : decode cX10_board 156 = .ok (.aload_n 0, 1) := by decide +kernel
theorem dX10_board_157 : decode cX10_board 157 = .ok (.getfield 18, 3) := by decide +kernel
theorem dX10_board_160 : decode cX10_board 160 = .ok (.aload_n 0, 1) := by decide +kernel
theorem dX10_board_161 : decode cX10_board 161 = .ok (.getfield 35, 3) := by decide +kernel
theorem dX10_board_164 : decode cX10_board 164 = .ok (.iload_n 3, 1) := by decide +kernel
theorem dX10_board_165 : decode cX10_board 165 = .ok (.iconst 1, 1) := by decide +kernel
theorem dX10_board_166 : decode cX10_board 166 = .ok (.invokevirtual 72, 3) := by decide +kernel
theorem dX10_board_169 : decode cX10_board 169 = .ok (.putfield 75, 3) := by decide +kernel
theorem dX10_board_172 : decode cX10_board 172 = .ok (.aload_n 0, 1) := by decide +kernel
theorem dX10_board_173 : decode cX10_board 173 = .ok (.aload_n 0, 1) := by decide +kernel
theorem dX10_board_174 : decode cX10_board 174 = .ok (.aload_n 0, 1) := by decide +kernel
theorem dX10_board_175 : decode cX10_board 175 = .ok (.getfield 27, 3) := by decide +kernel
theorem dX10_board_178 : decode cX10_board 178 = .ok (.getfield 78, 3) := by decide +kernel
theorem dX10_board_181 : decode cX10_board 181 = .ok (.iconst 1, 1) := by decide +kernel
theorem dX10_board_182 : decode cX10_board 182 = .ok (.isub, 1) := by decide +kernel
theorem dX10_board_183 : decode cX10_board 183 = .ok (.iconst 1, 1) := by decide +kernel
theorem dX10_board_184 : decode cX10_board 184 = .ok (.invokevirtual 83, 3) := by decide +kernel
theorem dX10_board_187 : decode cX10_board 187 = .ok (.putfield 52, 3) := by decide +kernel
theorem dX10_board_190 : decode cX10_board 190 = .ok (.return_, 1) := by decide +kernel
theorem dX10_flyGeese_0 : decode cX10_flyGeese 0 = .ok (.aload_n 0, 1) := by decide +kernel
theorem dX10_flyGeese_1 : decode cX10_flyGeese 1 = .ok (.aload_n 0, 1) := by decide +kernel
theorem dX10_flyGeese_2 : decode cX10_flyGeese 2 = .ok (.getfield 12, 3) := by decide +kernel
theorem dX10_flyGeese_5 : decode cX10_flyGeese 5 = .ok (.putfield 21, 3) := by decide +kernel
theorem dX10_flyGeese_8 : decode cX10_flyGeese 8 = .ok (.aload_n 0, 1) := by decide +kernel
theorem dX10_flyGeese_9 : decode cX10_flyGeese 9 = .ok (.aload_n 0, 1) := by decide +kernel
theorem dX10_flyGeese_10 : decode cX10_flyGeese 10 = .ok (.getfield 18, 3) := by decide +kernel
theorem dX10_flyGeese_13 : decode cX10_flyGeese 13 = .ok (.putfield 24, 3) := by decide +kernel
theorem dX10_flyGeese_16 : decode cX10_flyGeese 16 = .ok (.aload_n 0, 1) := by decide +kernel
theorem dX10_flyGeese_17 : decode cX10_flyGeese 17 = .ok (.getfield 21, 3) := by decide +kernel
theorem dX10_flyGeese_20 : decode cX10_flyGeese 20 = .ok (.invokevirtual 87, 3) := by decide +kernel
theorem dX10_flyGeese_23 : decode cX10_flyGeese 23 = .ok (.aload_n 0, 1) := by decide +kernel
theorem dX10_flyGeese_24 : decode cX10_flyGeese 24 = .ok (.getfield 24, 3) := by decide +kernel
theorem dX10_flyGeese_27 : decode cX10_flyGeese 27 = .ok (.invokevirtual 87, 3) := by decide +kernel
theorem dX10_flyGeese_30 : decode cX10_flyGeese 30 = .ok (.iconst 0, 1) := by decide +kernel
theorem dX10_flyGeese_31 : decode cX10_flyGeese 31 = .ok (.istore_n 3, 1) := by decide +kernel
theorem dX10_flyGeese_32 : decode cX10_flyGeese 32 = .ok (.iload_n 3, 1) := by decide +kernel
theorem dX10_flyGeese_33 : decode cX10_flyGeese 33 = .ok (.iload_n 1, 1) := by decide +kernel
theorem dX10_flyGeese_34 : decode cX10_flyGeese 34 = .ok (.if_icmp .gt 126, 3) := by decide +kernel
theorem dX10_flyGeese_37 : decode cX10_flyGeese 37 = .ok (.aload_n 0, 1) := by decide +kernel
theorem dX10_flyGeese_38 : decode cX10_flyGeese 38 = .ok (.getfield 27, 3) := by decide +kernel
theorem dX10_flyGeese_41 : decode cX10_flyGeese 41 = .ok (.iload_n 3, 1) := by decide +kernel
theorem dX10_flyGeese_42 : decode cX10_flyGeese 42 = .ok (.invokevirtual 90, 3) := by decide +kernel
theorem dX10_flyGeese_45 : decode cX10_flyGeese 45 = .ok (.istore 4, 2) := by decide +kernel
theorem dX10_flyGeese_47 : decode cX10_flyGeese 47 = .ok (.iload 4, 2) := by decide +kernel
theorem dX10_flyGeese_49 : decode cX10_flyGeese 49 = .ok (.bipush 8, 2) := by decide +kernel
theorem dX10_flyGeese_51 : decode cX10_flyGeese 51 = .ok (.if_icmp .ne 23, 3) := by decide +kernel
theorem dX10_flyGeese_54 : decode cX10_flyGeese 54 = .ok (.aload_n 0, 1) := by decide +kernel
theorem dX10_flyGeese_55 : decode cX10_flyGeese 55 = .ok (.getfield 21, 3) := by decide +kernel
theorem dX10_flyGeese_58 : decode cX10_flyGeese 58 = .ok (.astore 5, 2) := by decide +kernel
theorem dX10_flyGeese_60 : decode cX10_flyGeese 60 = .ok (.aload_n 0, 1) := by decide +kernel
theorem dX10_flyGeese_61 : decode cX10_flyGeese 61 = .ok (.aload_n 0, 1) := by decide +kernel
theorem dX10_flyGeese_62 : decode cX10_flyGeese 62 = .ok (.getfield 24, 3) := by decide +kernel
theorem dX10_flyGeese_65 : decode cX10_flyGeese 65 = .ok (.putfield 21, 3) := by decide +kernel
theorem dX10_flyGeese_68 : decode cX10_flyGeese 68 = .ok (.aload_n 0, 1) := by decide +kernel
theorem dX10_flyGeese_69 : decode cX10_flyGeese 69 = .ok (.aload 5, 2) := by decide +kernel
theorem dX10_flyGeese_71 : decode cX10_flyGeese 71 = .ok (.putfield 24, 3) := by decide +kernel
theorem dX10_flyGeese_74 : decode cX10_flyGeese 74 = .ok (.aload_n 0, 1) := by decide +kernel
theorem dX10_flyGeese_75 : decode cX10_flyGeese 75 = .ok (.getfield 21, 3) := by decide +kernel
theorem dX10_flyGeese_78 : decode cX10_flyGeese 78 = .ok (.invokevirtual 94, 3) := by decide +kernel
theorem dX10_flyGeese_81 : decode cX10_flyGeese 81 = .ok (.aload_n 0, 1) := by decide +kernel
theorem dX10_flyGeese_82 : decode cX10_flyGeese 82 = .ok (.getfield 24, 3) := by decide +kernel
theorem dX10_flyGeese_85 : decode cX10_flyGeese 85 = .ok (.invokevirtual 94, 3) := by decide +kernel
theorem dX10_flyGeese_88 : decode cX10_flyGeese 88 = .ok (.aload_n 0, 1) := by decide +kernel
theorem dX10_flyGeese_89 : decode cX10_flyGeese 89 = .ok (.getfield 21, 3) := by decide +kernel
theorem dX10_flyGeese_92 : decode cX10_flyGeese 92 = .ok (.getfield 97, 3) := by decide +kernel
theorem dX10_flyGeese_95 : decode cX10_flyGeese 95 = .ok (.aload_n 0, 1) := by decide +kernel
theorem dX10_flyGeese_96 : decode cX10_flyGeese 96 = .ok (.getfield 69, 3) := by decide +kernel
theorem dX10_flyGeese_99 : decode cX10_flyGeese 99 = .ok (.iconst 1, 1) := by decide +kernel
theorem dX10_flyGeese_100 : decode cX10_flyGeese 100 = .ok (.iadd, 1) := by decide +kernel
theorem dX10_flyGeese_101 : decode cX10_flyGeese 101 = .ok (.iconst 2, 1) := by decide +kernel
theorem dX10_flyGeese_102 : decode cX10_flyGeese 102 = .ok (.idiv, 1) := by decide +kernel
theorem dX10_flyGeese_103 : decode cX10_flyGeese 103 = .ok (.if_icmp .lt 19, 3) := by decide +kernel
theorem dX10_flyGeese_106 : decode cX10_flyGeese 106 = .ok (.aload_n 0, 1) := by decide +kernel
theorem dX10_flyGeese_107 : decode cX10_flyGeese 107 = .ok (.getfield 24, 3) := by decide +kernel
theorem dX10_flyGeese_110 : decode cX10_flyGeese 110 = .ok (.getfield 97, 3) := by decide +kernel
theorem dX10_flyGeese_113 : decode cX10_flyGeese 113 = .ok (.aload_n 0, 1) := by decide +kernel
theorem dX10_flyGeese_114 : decode cX10_flyGeese 114 = .ok (.getfield 69, 3) := by decide +kernel
theorem dX10_flyGeese_117 : decode cX10_flyGeese 117 = .ok (.iconst 2, 1) := by decide +kernel
theorem dX10_flyGeese_118 : decode cX10_flyGeese 118 = .ok (.idiv, 1) := by decide +kernel
theorem dX10_flyGeese_119 : decode cX10_flyGeese 119 = .ok (.if_icmp .ge 5, 3) := by decide +kernel
theorem dX10_flyGeese_122 : decode cX10_flyGeese 122 = .ok (.iload_n 3, 1) := by decide +kernel
theorem dX10_flyGeese_123 : decode cX10_flyGeese 123 = .ok (.ireturn, 1) := by decide +kernel
theorem dX10_flyGeese_124 : decode cX10_flyGeese 124 = .ok (.iload 4, 2) := by decide +kernel
theorem dX10_flyGeese_126 : decode cX10_flyGeese 126 = .ok (.bipush 7, 2) := by decide +kernel
theorem dX10_flyGeese_128 : decode cX10_flyGeese 128 = .ok (.if_icmp .ne 26, 3) := by decide +kernel
theorem dX10_flyGeese_131 : decode cX10_flyGeese 131 = .ok (.iload_n 3, 1) := by decide +kernel
theorem dX10_flyGeese_132 : decode cX10_flyGeese 132 = .ok (.iload_n 1, 1) := by decide +kernel
theorem dX10_flyGeese_133 : decode cX10_flyGeese 133 = .ok (.if_icmp .lt 7, 3) := by decide +kernel
theorem dX10_flyGeese_136 : decode cX10_flyGeese 136 = .ok (.iload_n 2, 1) := by decide +kernel
theorem dX10_flyGeese_137 : decode cX10_flyGeese 137 = .ok (.ifCond .eq 17, 3) := by decide +kernel
theorem dX10_flyGeese_140 : decode cX10_flyGeese 140 = .ok (.aload_n 0, 1) := by decide +kernel
theorem dX10_flyGeese_141 : decode cX10_flyGeese 141 = .ok (.getfield 21, 3) := by decide +kernel
theorem dX10_flyGeese_144 : decode cX10_flyGeese 144 = .ok (.invokevirtual 100, 3) := by decide +kernel
theorem dX10_flyGeese_147 : decode cX10_flyGeese 147 = .ok (.aload_n 0, 1) := by decide +kernel
theorem dX10_flyGeese_148 : decode cX10_flyGeese 148 = .ok (.getfield 24, 3) := by decide +kernel
theorem dX10_flyGeese_151 : decode cX10_flyGeese 151 = .ok (.invokevirtual 100, 3) := by decide +kernel
theorem dX10_flyGeese_154 : decode cX10_flyGeese 154 = .ok (.iinc 3 1, 3) := by decide +kernel
theorem dX10_flyGeese_157 : decode cX10_flyGeese 157 = .ok (.goto (-125), 3) := by decide +kernel
theorem dX10_flyGeese_160 : decode cX10_flyGeese 160 = .ok (.iload_n 1, 1) := by decide +kernel
theorem dX10_flyGeese_161 : decode cX10_flyGeese 161 = .ok (.iconst 1, 1) := by decide +kernel
theorem dX10_flyGeese_162 : decode cX10_flyGeese 162 = .ok (.iadd, 1) := by decide +kernel
theorem dX10_flyGeese_163 : decode cX10_flyGeese 163 = .ok (.ireturn, 1) := by decide +kernel
theorem dX10_setOut_0 : decode cX10_setOut 0 = .ok (.aload_n 0, 1) := by decide +kernel
theorem dX10_setOut_1 : decode cX10_setOut 1 = .ok (.iconst 0, 1) := by decide +kernel
theorem dX10_setOut_2 : decode cX10_setOut 2 = .ok (.putfield 103, 3) := by decide +kernel
theorem dX10_setOut_5 : decode cX10_setOut 5 = .ok (.aload_n 0, 1) := by decide +kernel
theorem dX10_setOut_6 : decode cX10_setOut 6 = .ok (.iconst 0, 1) := by decide +kernel
theorem dX10_setOut_7 : decode cX10_setOut 7 = .ok (.putfield 106, 3) := by decide +kernel
theorem dX10_setOut_10 : decode cX10_setOut 10 = .ok (.aload_n 0, 1) := by decide +kernel
theorem dX10_setOut_11 : decode cX10_setOut 11 = .ok (.aload_n 0, 1) := by decide +kernel
theorem dX10_setOut_12 : decode cX10_setOut 12 = .ok (.getfield 48, 3) := by decide +kernel
theorem dX10_setOut_15 : decode cX10_setOut 15 = .ok (.ifCond .eq 7, 3) := by decide +kernel
theorem dX10_setOut_18 : decode cX10_setOut 18 = .ok (.iconst 0, 1) := by decide +kernel
theorem dX10_setOut_19 : decode cX10_setOut 19 = .ok (.goto 4, 3) := by decide +kernel
theorem dX10_setOut_22 : decode cX10_setOut 22 = .ok (.iconst 1, 1) := by decide +kernel
theorem dX10_setOut_23 : decode cX10_setOut 23 = .ok (.putfield 109, 3) := by decide +kernel
theorem dX10_setOut_26 : decode cX10_setOut 26 = .ok (.return_, 1) := by decide +kernel
theorem dX10_comesTo_0 : decode cX10_comesTo 0 = .ok (.aload_n 0, 1) := by decide +kernel
theorem dX10_comesTo_1 : decode cX10_comesTo 1 = .ok (.invokevirtual 112, 3) := by decide +kernel
theorem dX10_comesTo_4 : decode cX10_comesTo 4 = .ok (.aload_n 0, 1) := by decide +kernel
