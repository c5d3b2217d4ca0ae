theorem dX11_digest_260 : decode cX11_digest 260 = .ok (.invokevirtual 301, 3) := by decide +kernel
theorem dX11_digest_263 : decode cX11_digest 263 = .ok (.i2l, 1) := by decide +kernel
theorem dX11_digest_264 : decode cX11_digest 264 = .ok (.ladd, 1) := by decide +kernel
theorem dX11_digest_265 : decode cX11_digest 265 = .ok (.lstore_n 1, 1) := by decide +kernel
theorem dX11_digest_266 : decode cX11_digest 266 = .ok (.ldc2_w 274, 3) := by decide +kernel
theorem dX11_digest_269 : decode cX11_digest 269 = .ok (.lload_n 1, 1) := by decide +kernel
theorem dX11_digest_270 : decode cX11_digest 270 = .ok (.lmul, 1) := by decide +kernel
theorem dX11_digest_271 : decode cX11_digest 271 = .ok (.aload_n 0, 1) := by decide +kernel
theorem dX11_digest_272 : decode cX11_digest 272 = .ok (.bipush 7, 2) := by decide +kernel
theorem dX11_digest_274 : decode cX11_digest 274 = .ok (.bipush 30, 2) := by decide +kernel
theorem dX11_digest_276 : decode cX11_digest 276 = .ok (.iconst 1, 1) := by decide +kernel
theorem dX11_digest_277 : decode cX11_digest 277 = .ok (.invokevirtual 301, 3) := by decide +kernel
theorem dX11_digest_280 : decode cX11_digest 280 = .ok (.i2l, 1) := by decide +kernel
theorem dX11_digest_281 : decode cX11_digest 281 = .ok (.ladd, 1) := by decide +kernel
theorem dX11_digest_282 : decode cX11_digest 282 = .ok (.lreturn, 1) := by decide +kernel
theorem dX11_textOf_0 : decode cX11_textOf 0 = .ok (.iload_n 1, 1) := by decide +kernel
theorem dX11_textOf_1 : decode cX11_textOf 1 = .ok (.tableswitch 42 0 2 #[27, 32, 37], 27) := by decide +kernel
theorem dX11_textOf_28 : decode cX11_textOf 28 = .ok (.aload_n 0, 1) := by decide +kernel
theorem dX11_textOf_29 : decode cX11_textOf 29 = .ok (.getfield 10, 3) := by decide +kernel
theorem dX11_textOf_32 : decode cX11_textOf 32 = .ok (.areturn, 1) := by decide +kernel
theorem dX11_textOf_33 : decode cX11_textOf 33 = .ok (.aload_n 0, 1) := by decide +kernel
theorem dX11_textOf_34 : decode cX11_textOf 34 = .ok (.getfield 19, 3) := by decide +kernel
theorem dX11_textOf_37 : decode cX11_textOf 37 = .ok (.areturn, 1) := by decide +kernel
theorem dX11_textOf_38 : decode cX11_textOf 38 = .ok (.aload_n 0, 1) := by decide +kernel
theorem dX11_textOf_39 : decode cX11_textOf 39 = .ok (.getfield 26, 3) := by decide +kernel
theorem dX11_textOf_42 : decode cX11_textOf 42 = .ok (.areturn, 1) := by decide +kernel
theorem dX11_textOf_43 : decode cX11_textOf 43 = .ok (.aconst_null, 1) := by decide +kernel
theorem dX11_textOf_44 : decode cX11_textOf 44 = .ok (.areturn, 1) := by decide +kernel
theorem dX11_sheetOf_0 : decode cX11_sheetOf 0 = .ok (.iload_n 1, 1) := by decide +kernel
theorem dX11_sheetOf_1 : decode cX11_sheetOf 1 = .ok (.ifCond .lt 21, 3) := by decide +kernel
theorem dX11_sheetOf_4 : decode cX11_sheetOf 4 = .ok (.iload_n 1, 1) := by decide +kernel
theorem dX11_sheetOf_5 : decode cX11_sheetOf 5 = .ok (.aload_n 0, 1) := by decide +kernel
theorem dX11_sheetOf_6 : decode cX11_sheetOf 6 = .ok (.getfield 79, 3) := by decide +kernel
theorem dX11_sheetOf_9 : decode cX11_sheetOf 9 = .ok (.arraylength, 1) := by decide +kernel
theorem dX11_sheetOf_10 : decode cX11_sheetOf 10 = .ok (.if_icmp .ge 12, 3) := by decide +kernel
theorem dX11_sheetOf_13 : decode cX11_sheetOf 13 = .ok (.aload_n 0, 1) := by decide +kernel
theorem dX11_sheetOf_14 : decode cX11_sheetOf 14 = .ok (.getfield 79, 3) := by decide +kernel
theorem dX11_sheetOf_17 : decode cX11_sheetOf 17 = .ok (.iload_n 1, 1) := by decide +kernel
theorem dX11_sheetOf_18 : decode cX11_sheetOf 18 = .ok (.aaload, 1) := by decide +kernel
theorem dX11_sheetOf_19 : decode cX11_sheetOf 19 = .ok (.goto 4, 3) := by decide +kernel
theorem dX11_sheetOf_22 : decode cX11_sheetOf 22 = .ok (.aconst_null, 1) := by decide +kernel
theorem dX11_sheetOf_23 : decode cX11_sheetOf 23 = .ok (.areturn, 1) := by decide +kernel
theorem dX11_isForm_0 : decode cX11_isForm 0 = .ok (.iload_n 0, 1) := by decide +kernel
theorem dX11_isForm_1 : decode cX11_isForm 1 = .ok (.ifCond .lt 12, 3) := by decide +kernel
theorem dX11_isForm_4 : decode cX11_isForm 4 = .ok (.iload_n 0, 1) := by decide +kernel
theorem dX11_isForm_5 : decode cX11_isForm 5 = .ok (.iconst 2, 1) := by decide +kernel
theorem dX11_isForm_6 : decode cX11_isForm 6 = .ok (.if_icmp .gt 7, 3) := by decide +kernel
theorem dX11_isForm_9 : decode cX11_isForm 9 = .ok (.iconst 1, 1) := by decide +kernel
theorem dX11_isForm_10 : decode cX11_isForm 10 = .ok (.goto 4, 3) := by decide +kernel
theorem dX11_isForm_13 : decode cX11_isForm 13 = .ok (.iconst 0, 1) := by decide +kernel
theorem dX11_isForm_14 : decode cX11_isForm 14 = .ok (.ireturn, 1) := by decide +kernel
theorem dX11_found_0 : decode cX11_found 0 = .ok (.aload_n 0, 1) := by decide +kernel
theorem dX11_found_1 : decode cX11_found 1 = .ok (.iload_n 1, 1) := by decide +kernel
theorem dX11_found_2 : decode cX11_found 2 = .ok (.putfield 269, 3) := by decide +kernel
theorem dX11_found_5 : decode cX11_found 5 = .ok (.bipush (-10), 2) := by decide +kernel
theorem dX11_found_7 : decode cX11_found 7 = .ok (.iload_n 1, 1) := by decide +kernel
theorem dX11_found_8 : decode cX11_found 8 = .ok (.isub, 1) := by decide +kernel
theorem dX11_found_9 : decode cX11_found 9 = .ok (.ireturn, 1) := by decide +kernel
theorem dX11_itemRefusal_0 : decode cX11_itemRefusal 0 = .ok (.aload_n 1, 1) := by decide +kernel
theorem dX11_itemRefusal_1 : decode cX11_itemRefusal 1 = .ok (.getfield 133, 3) := by decide +kernel
theorem dX11_itemRefusal_4 : decode cX11_itemRefusal 4 = .ok (.ifCond .eq 9, 3) := by decide +kernel
theorem dX11_itemRefusal_7 : decode cX11_itemRefusal 7 = .ok (.aload_n 0, 1) := by decide +kernel
theorem dX11_itemRefusal_8 : decode cX11_itemRefusal 8 = .ok (.iconst 1, 1) := by decide +kernel
theorem dX11_itemRefusal_9 : decode cX11_itemRefusal 9 = .ok (.invokevirtual 137, 3) := by decide +kernel
theorem dX11_itemRefusal_12 : decode cX11_itemRefusal 12 = .ok (.ireturn, 1) := by decide +kernel
theorem dX12_init_0 : decode cX12_init 0 = .ok (.aload_n 0, 1) := by decide +kernel
theorem dX12_init_1 : decode cX12_init 1 = .ok (.invokespecial 1, 3) := by decide +kernel
theorem dX12_init_4 : decode cX12_init 4 = .ok (.aload_n 0, 1) := by decide +kernel
theorem dX12_init_5 : decode cX12_init 5 = .ok (.iconst 4, 1) := by decide +kernel
theorem dX12_init_6 : decode cX12_init 6 = .ok (.newarray .int, 2) := by decide +kernel
theorem dX12_init_8 : decode cX12_init 8 = .ok (.putfield 7, 3) := by decide +kernel
theorem dX12_init_11 : decode cX12_init 11 = .ok (.aload_n 0, 1) := by decide +kernel
theorem dX12_init_12 : decode cX12_init 12 = .ok (.iconst 4, 1) := by decide +kernel
theorem dX12_init_13 : decode cX12_init 13 = .ok (.newarray .int, 2) := by decide +kernel
theorem dX12_init_15 : decode cX12_init 15 = .ok (.putfield 13, 3) := by decide +kernel
theorem dX12_init_18 : decode cX12_init 18 = .ok (.aload_n 0, 1) := by decide +kernel
theorem dX12_init_19 : decode cX12_init 19 = .ok (.sipush 240, 3) := by decide +kernel
theorem dX12_init_22 : decode cX12_init 22 = .ok (.newarray .int, 2) := by decide +kernel
theorem dX12_init_24 : decode cX12_init 24 = .ok (.putfield 16, 3) := by decide +kernel
theorem dX12_init_27 : decode cX12_init 27 = .ok (.aload_n 0, 1) := by decide +kernel
theorem dX12_init_28 : decode cX12_init 28 = .ok (.bipush 60, 2) := by decide +kernel
theorem dX12_init_30 : decode cX12_init 30 = .ok (.newarray .int, 2) := by decide +kernel
theorem dX12_init_32 : decode cX12_init 32 = .ok (.putfield 19, 3) := by decide +kernel
theorem dX12_init_35 : decode cX12_init 35 = .ok (.aload_n 0, 1) := by decide +kernel
theorem dX12_init_36 : decode cX12_init 36 = .ok (.bipush 120, 2) := by decide +kernel
theorem dX12_init_38 : decode cX12_init 38 = .ok (.newarray .int, 2) := by decide +kernel
theorem dX12_init_40 : decode cX12_init 40 = .ok (.putfield 22, 3) := by decide +kernel
theorem dX12_init_43 : decode cX12_init 43 = .ok (.aload_n 0, 1) := by decide +kernel
theorem dX12_init_44 : decode cX12_init 44 = .ok (.iconst 3, 1) := by decide +kernel
theorem dX12_init_45 : decode cX12_init 45 = .ok (.newarray .int, 2) := by decide +kernel
theorem dX12_init_47 : decode cX12_init 47 = .ok (.putfield 25, 3) := by decide +kernel
theorem dX12_init_50 : decode cX12_init 50 = .ok (.aload_n 0, 1) := by decide +kernel
theorem dX12_init_51 : decode cX12_init 51 = .ok (.bipush 24, 2) := by decide +kernel
theorem dX12_init_53 : decode cX12_init 53 = .ok (.newarray .int, 2) := by decide +kernel
theorem dX12_init_55 : decode cX12_init 55 = .ok (.putfield 28, 3) := by decide +kernel
theorem dX12_init_58 : decode cX12_init 58 = .ok (.aload_n 0, 1) := by decide +kernel
theorem dX12_init_59 : decode cX12_init 59 = .ok (.bipush 32, 2) := by decide +kernel
theorem dX12_init_61 : decode cX12_init 61 = .ok (.newarray .int, 2) := by decide +kernel
theorem dX12_init_63 : decode cX12_init 63 = .ok (.putfield 31, 3) := by decide +kernel
theorem dX12_init_66 : decode cX12_init 66 = .ok (.aload_n 0, 1) := by decide +kernel
theorem dX12_init_67 : decode cX12_init 67 = .ok (.bipush 16, 2) := by decide +kernel
theorem dX12_init_69 : decode cX12_init 69 = .ok (.newarray .int, 2) := by decide +kernel
theorem dX12_init_71 : decode cX12_init 71 = .ok (.putfield 34, 3) := by decide +kernel
theorem dX12_init_74 : decode cX12_init 74 = .ok (.aload_n 0, 1) := by decide +kernel
theorem dX12_init_75 : decode cX12_init 75 = .ok (.bipush 32, 2) := by decide +kernel
theorem dX12_init_77 : decode cX12_init 77 = .ok (.newarray .int, 2) := by decide +kernel
theorem dX12_init_79 : decode cX12_init 79 = .ok (.putfield 37, 3) := by decide +kernel
theorem dX12_init_82 : decode cX12_init 82 = .ok (.aload_n 0, 1) := by decide +kernel
theorem dX12_init_83 : decode cX12_init 83 = .ok (.bipush 96, 2) := by decide +kernel
theorem dX12_init_85 : decode cX12_init 85 = .ok (.newarray .int, 2) := by decide +kernel
theorem dX12_init_87 : decode cX12_init 87 = .ok (.putfield 40, 3) := by decide +kernel
theorem dX12_init_90 : decode cX12_init 90 = .ok (.aload_n 0, 1) := by decide +kernel
theorem dX12_init_91 : decode cX12_init 91 = .ok (.iconst 2, 1) := by decide +kernel
theorem dX12_init_92 : decode cX12_init 92 = .ok (.newarray .int, 2) := by decide +kernel
theorem dX12_init_94 : decode cX12_init 94 = .ok (.putfield 43, 3) := by decide +kernel
theorem dX12_init_97 : decode cX12_init 97 = .ok (.aload_n 0, 1) := by decide +kernel
theorem dX12_init_98 : decode cX12_init 98 = .ok (.iconst 2, 1) := by decide +kernel
theorem dX12_init_99 : decode cX12_init 99 = .ok (.newarray .int, 2) := by decide +kernel
theorem dX12_init_101 : decode cX12_init 101 = .ok (.putfield 46, 3) := by decide +kernel
theorem dX12_init_104 : decode cX12_init 104 = .ok (.aload_n 0, 1) := by decide +kernel
theorem dX12_init_105 : decode cX12_init 105 = .ok (.iconst 2, 1) := by decide +kernel
theorem dX12_init_106 : decode cX12_init 106 = .ok (.newarray .int, 2) := by decide +kernel
theorem dX12_init_108 : decode cX12_init 108 = .ok (.putfield 49, 3) := by decide +kernel
theorem dX12_init_111 : decode cX12_init 111 = .ok (.aload_n 0, 1) := by decide +kernel
theorem dX12_init_112 : decode cX12_init 112 = .ok (.bipush 16, 2) := by decide +kernel
theorem dX12_init_114 : decode cX12_init 114 = .ok (.newarray .int, 2) := by decide +kernel
theorem dX12_init_116 : decode cX12_init 116 = .ok (.putfield 52, 3) := by decide +kernel
theorem dX12_init_119 : decode cX12_init 119 = .ok (.aload_n 0, 1) := by decide +kernel
theorem dX12_init_120 : decode cX12_init 120 = .ok (.bipush 25, 2) := by decide +kernel
theorem dX12_init_122 : decode cX12_init 122 = .ok (.newarray .int, 2) := by decide +kernel
theorem dX12_init_124 : decode cX12_init 124 = .ok (.putfield 55, 3) := by decide +kernel
theorem dX12_init_127 : decode cX12_init 127 = .ok (.iconst 0, 1) := by decide +kernel
theorem dX12_init_128 : decode cX12_init 128 = .ok (.istore_n 1, 1) := by decide +kernel
theorem dX12_init_129 : decode cX12_init 129 = .ok (.iload_n 1, 1) := by decide +kernel
theorem dX12_init_130 : decode cX12_init 130 = .ok (.iconst 4, 1) := by decide +kernel
theorem dX12_init_131 : decode cX12_init 131 = .ok (.if_icmp .ge 16, 3) := by decide +kernel
theorem dX12_init_134 : decode cX12_init 134 = .ok (.aload_n 0, 1) := by decide +kernel
theorem dX12_init_135 : decode cX12_init 135 = .ok (.getfield 7, 3) := by decide +kernel
theorem dX12_init_138 : decode cX12_init 138 = .ok (.iload_n 1, 1) := by decide +kernel
theorem dX12_init_139 : decode cX12_init 139 = .ok (.iconst (-1), 1) := by decide +kernel
theorem dX12_init_140 : decode cX12_init 140 = .ok (.iastore, 1) := by decide +kernel
theorem dX12_init_141 : decode cX12_init 141 = .ok (.iinc 1 1, 3) := by decide +kernel
theorem dX12_init_144 : decode cX12_init 144 = .ok (.goto (-15), 3) := by decide +kernel
theorem dX12_init_147 : decode cX12_init 147 = .ok (.aload_n 0, 1) := by decide +kernel
theorem dX12_init_148 : decode cX12_init 148 = .ok (.ldc 58, 2) := by decide +kernel
theorem dX12_init_150 : decode cX12_init 150 = .ok (.putfield 59, 3) := by decide +kernel
theorem dX12_init_153 : decode cX12_init 153 = .ok (.return_, 1) := by decide +kernel
theorem dX12_in_0 : decode cX12_in 0 = .ok (.lload_n 0, 1) := by decide +kernel
theorem dX12_in_1 : decode cX12_in 1 = .ok (.lload_n 2, 1) := by decide +kernel
theorem dX12_in_2 : decode cX12_in 2 = .ok (.lcmp, 1) := by decide +kernel
theorem dX12_in_3 : decode cX12_in 3 = .ok (.ifCond .lt 14, 3) := by decide +kernel
theorem dX12_in_6 : decode cX12_in 6 = .ok (.lload_n 0, 1) := by decide +kernel
theorem dX12_in_7 : decode cX12_in 7 = .ok (.lload 4, 2) := by decide +kernel
theorem dX12_in_9 : decode cX12_in 9 = .ok (.lcmp, 1) := by decide +kernel
theorem dX12_in_10 : decode cX12_in 10 = .ok (.ifCond .gt 7, 3) := by decide +kernel
theorem dX12_in_13 : decode cX12_in 13 = .ok (.iconst 1, 1) := by decide +kernel
theorem dX12_in_14 : decode cX12_in 14 = .ok (.goto 4, 3) := by decide +kernel
theorem dX12_in_17 : decode cX12_in 17 = .ok (.iconst 0, 1) := by decide +kernel
theorem dX12_in_18 : decode cX12_in 18 = .ok (.ireturn, 1) := by decide +kernel
theorem dX12_no_0 : decode cX12_no 0 = .ok (.ldc2_w 63, 3) := by decide +kernel
theorem dX12_no_3 : decode cX12_no 3 = .ok (.iload_n 0, 1) := by decide +kernel
theorem dX12_no_4 : decode cX12_no 4 = .ok (.i2l, 1) := by decide +kernel
theorem dX12_no_5 : decode cX12_no 5 = .ok (.lsub, 1) := by decide +kernel
theorem dX12_no_6 : decode cX12_no 6 = .ok (.lreturn, 1) := by decide +kernel
theorem dX12_isTwo_0 : decode cX12_isTwo 0 = .ok (.iload_n 0, 1) := by decide +kernel
theorem dX12_isTwo_1 : decode cX12_isTwo 1 = .ok (.i2l, 1) := by decide +kernel
theorem dX12_isTwo_2 : decode cX12_isTwo 2 = .ok (.lconst 0, 1) := by decide +kernel
theorem dX12_isTwo_3 : decode cX12_isTwo 3 = .ok (.lconst 1, 1) := by decide +kernel
theorem dX12_isTwo_4 : decode cX12_isTwo 4 = .ok (.invokestatic 65, 3) := by decide +kernel
theorem dX12_isTwo_7 : decode cX12_isTwo 7 = .ok (.ireturn, 1) := by decide +kernel
theorem dX12_finds_0 : decode cX12_finds 0 = .ok (.aload_n 0, 1) := by decide +kernel
theorem dX12_finds_1 : decode cX12_finds 1 = .ok (.iload_n 1, 1) := by decide +kernel
theorem dX12_finds_2 : decode cX12_finds 2 = .ok (.putfield 69, 3) := by decide +kernel
theorem dX12_finds_5 : decode cX12_finds 5 = .ok (.bipush (-10), 2) := by decide +kernel
theorem dX12_finds_7 : decode cX12_finds 7 = .ok (.iload_n 1, 1) := by decide +kernel
theorem dX12_finds_8 : decode cX12_finds 8 = .ok (.isub, 1) := by decide +kernel
theorem dX12_finds_9 : decode cX12_finds 9 = .ok (.ireturn, 1) := by decide +kernel
theorem dX12_isSheet_0 : decode cX12_isSheet 0 = .ok (.iload_n 0, 1) := by decide +kernel
theorem dX12_isSheet_1 : decode cX12_isSheet 1 = .ok (.i2l, 1) := by decide +kernel
theorem dX12_isSheet_2 : decode cX12_isSheet 2 = .ok (.lconst 0, 1) := by decide +kernel
theorem dX12_isSheet_3 : decode cX12_isSheet 3 = .ok (.ldc2_w 72, 3) := by decide +kernel
theorem dX12_isSheet_6 : decode cX12_isSheet 6 = .ok (.invokestatic 65, 3) := by decide +kernel
theorem dX12_isSheet_9 : decode cX12_isSheet 9 = .ok (.ireturn, 1) := by decide +kernel
theorem dX12_sheet_0 : decode cX12_sheet 0 = .ok (.iload_n 1, 1) := by decide +kernel
theorem dX12_sheet_1 : decode cX12_sheet 1 = .ok (.invokestatic 74, 3) := by decide +kernel
theorem dX12_sheet_4 : decode cX12_sheet 4 = .ok (.ifCond .eq 21, 3) := by decide +kernel
theorem dX12_sheet_7 : decode cX12_sheet 7 = .ok (.iload_n 2, 1) := by decide +kernel
theorem dX12_sheet_8 : decode cX12_sheet 8 = .ok (.i2l, 1) := by decide +kernel
theorem dX12_sheet_9 : decode cX12_sheet 9 = .ok (.lconst 0, 1) := by decide +kernel
theorem dX12_sheet_10 : decode cX12_sheet 10 = .ok (.ldc2_w 78, 3) := by decide +kernel
theorem dX12_sheet_13 : decode cX12_sheet 13 = .ok (.invokestatic 65, 3) := by decide +kernel
theorem dX12_sheet_16 : decode cX12_sheet 16 = .ok (.ifCond .eq 9, 3) := by decide +kernel
theorem dX12_sheet_19 : decode cX12_sheet 19 = .ok (.iload_n 3, 1) := by decide +kernel
theorem dX12_sheet_20 : decode cX12_sheet 20 = .ok (.bipush 60, 2) := by decide +kernel
theorem dX12_sheet_22 : decode cX12_sheet 22 = .ok (.if_icmp .le 6, 3) := by decide +kernel
theorem dX12_sheet_25 : decode cX12_sheet 25 = .ok (.bipush (-2), 2) := by decide +kernel
theorem dX12_sheet_27 : decode cX12_sheet 27 = .ok (.ireturn, 1) := by decide +kernel
theorem dX12_sheet_28 : decode cX12_sheet 28 = .ok (.iload_n 3, 1) := by decide +kernel
theorem dX12_sheet_29 : decode cX12_sheet 29 = .ok (.ifCond .ge 9, 3) := by decide +kernel
theorem dX12_sheet_32 : decode cX12_sheet 32 = .ok (.aload_n 0, 1) := by decide +kernel
theorem dX12_sheet_33 : decode cX12_sheet 33 = .ok (.iconst 5, 1) := by decide +kernel
theorem dX12_sheet_34 : decode cX12_sheet 34 = .ok (.invokevirtual 80, 3) := by decide +kernel
theorem dX12_sheet_37 : decode cX12_sheet 37 = .ok (.ireturn, 1) := by decide +kernel
theorem dX12_sheet_38 : decode cX12_sheet 38 = .ok (.aload_n 0, 1) := by decide +kernel
theorem dX12_sheet_39 : decode cX12_sheet 39 = .ok (.getfield 7, 3) := by decide +kernel
theorem dX12_sheet_42 : decode cX12_sheet 42 = .ok (.iload_n 1, 1) := by decide +kernel
theorem dX12_sheet_43 : decode cX12_sheet 43 = .ok (.iload_n 2, 1) := by decide +kernel
theorem dX12_sheet_44 : decode cX12_sheet 44 = .ok (.iastore, 1) := by decide +kernel
theorem dX12_sheet_45 : decode cX12_sheet 45 = .ok (.aload_n 0, 1) := by decide +kernel
theorem dX12_sheet_46 : decode cX12_sheet 46 = .ok (.getfield 13, 3) := by decide +kernel
theorem dX12_sheet_49 : decode cX12_sheet 49 = .ok (.iload_n 1, 1) := by decide +kernel
theorem dX12_sheet_50 : decode cX12_sheet 50 = .ok (.iload_n 3, 1) := by decide +kernel
theorem dX12_sheet_51 : decode cX12_sheet 51 = .ok (.iastore, 1) := by decide +kernel
theorem dX12_sheet_52 : decode cX12_sheet 52 = .ok (.iconst 0, 1) := by decide +kernel
theorem dX12_sheet_53 : decode cX12_sheet 53 = .ok (.istore 4, 2) := by decide +kernel
theorem dX12_sheet_55 : decode cX12_sheet 55 = .ok (.iload 4, 2) := by decide +kernel
theorem dX12_sheet_57 : decode cX12_sheet 57 = .ok (.iload_n 3, 1) := by decide +kernel
theorem dX12_sheet_58 : decode cX12_sheet 58 = .ok (.if_icmp .ge 22, 3) := by decide +kernel
theorem dX12_sheet_61 : decode cX12_sheet 61 = .ok (.aload_n 0, 1) := by decide +kernel
theorem dX12_sheet_62 : decode cX12_sheet 62 = .ok (.getfield 16, 3) := by decide +kernel
theorem dX12_sheet_65 : decode cX12_sheet 65 = .ok (.bipush 60, 2) := by decide +kernel
theorem dX12_sheet_67 : decode cX12_sheet 67 = .ok (.iload_n 1, 1) := by decide +kernel
theorem dX12_sheet_68 : decode cX12_sheet 68 = .ok (.imul, 1) := by decide +kernel
theorem dX12_sheet_69 : decode cX12_sheet 69 = .ok (.iload 4, 2) := by decide +kernel
theorem dX12_sheet_71 : decode cX12_sheet 71 = .ok (.iadd, 1) := by decide +kernel
theorem dX12_sheet_72 : decode cX12_sheet 72 = .ok (.iconst 0, 1) := by decide +kernel
theorem dX12_sheet_73 : decode cX12_sheet 73 = .ok (.iastore, 1) := by decide +kernel
theorem dX12_sheet_74 : decode cX12_sheet 74 = .ok (.iinc 4 1, 3) := by decide +kernel
theorem dX12_sheet_77 : decode cX12_sheet 77 = .ok (.goto (-22), 3) := by decide +kernel
theorem dX12_sheet_80 : decode cX12_sheet 80 = .ok (.iload_n 3, 1) := by decide +kernel
theorem dX12_sheet_81 : decode cX12_sheet 81 = .ok (.ireturn, 1) := by decide +kernel
theorem dX12_lose_0 : decode cX12_lose 0 = .ok (.iload_n 1, 1) := by decide +kernel
theorem dX12_lose_1 : decode cX12_lose 1 = .ok (.invokestatic 74, 3) := by decide +kernel
theorem dX12_lose_4 : decode cX12_lose 4 = .ok (.ifCond .ne 6, 3) := by decide +kernel
theorem dX12_lose_7 : decode cX12_lose 7 = .ok (.bipush (-2), 2) := by decide +kernel
theorem dX12_lose_9 : decode cX12_lose 9 = .ok (.ireturn, 1) := by decide +kernel
theorem dX12_lose_10 : decode cX12_lose 10 = .ok (.aload_n 0, 1) := by decide +kernel
theorem dX12_lose_11 : decode cX12_lose 11 = .ok (.getfield 7, 3) := by decide +kernel
theorem dX12_lose_14 : decode cX12_lose 14 = .ok (.iload_n 1, 1) := by decide +kernel
theorem dX12_lose_15 : decode cX12_lose 15 = .ok (.iaload, 1) := by decide +kernel
theorem dX12_lose_16 : decode cX12_lose 16 = .ok (.ifCond .ge 9, 3) := by decide +kernel
theorem dX12_lose_19 : decode cX12_lose 19 = .ok (.aload_n 0, 1) := by decide +kernel
theorem dX12_lose_20 : decode cX12_lose 20 = .ok (.iconst 1, 1) := by decide +kernel
theorem dX12_lose_21 : decode cX12_lose 21 = .ok (.invokevirtual 80, 3) := by decide +kernel
theorem dX12_lose_24 : decode cX12_lose 24 = .ok (.ireturn, 1) := by decide +kernel
theorem dX12_lacks_0 : decode cX12_lacks 0 = .ok (.aload_n 0, 1) := by decide +kernel
theorem dX12_lacks_1 : decode cX12_lacks 1 = .ok (.getfield 7, 3) := by decide +kernel
theorem dX12_lacks_4 : decode cX12_lacks 4 = .ok (.iload_n 1, 1) := by decide +kernel
theorem dX12_lacks_5 : decode cX12_lacks 5 = .ok (.iaload, 1) := by decide +kernel
theorem dX12_lacks_6 : decode cX12_lacks 6 = .ok (.ifCond .ge 9, 3) := by decide +kernel
theorem dX12_lacks_9 : decode cX12_lacks 9 = .ok (.aload_n 0, 1) := by decide +kernel
theorem dX12_lacks_10 : decode cX12_lacks 10 = .ok (.iconst 1, 1) := by decide +kernel
theorem dX12_lacks_11 : decode cX12_lacks 11 = .ok (.invokevirtual 80, 3) := by decide +kernel
theorem dX12_lacks_14 : decode cX12_lacks 14 = .ok (.ireturn, 1) := by decide +kernel
theorem dX12_lay_0 : decode cX12_lay 0 = .ok (.iload_n 1, 1) := by decide +kernel
theorem dX12_lay_1 : decode cX12_lay 1 = .ok (.invokestatic 74, 3) := by decide +kernel
theorem dX12_lay_4 : decode cX12_lay 4 = .ok (.ifCond .eq 15, 3) := by decide +kernel
theorem dX12_lay_7 : decode cX12_lay 7 = .ok (.iload_n 2, 1) := by decide +kernel
theorem dX12_lay_8 : decode cX12_lay 8 = .ok (.i2l, 1) := by decide +kernel
theorem dX12_lay_9 : decode cX12_lay 9 = .ok (.lconst 0, 1) := by decide +kernel
theorem dX12_lay_10 : decode cX12_lay 10 = .ok (.ldc2_w 78, 3) := by decide +kernel
theorem dX12_lay_13 : decode cX12_lay 13 = .ok (.invokestatic 65, 3) := by decide +kernel
theorem dX12_lay_16 : decode cX12_lay 16 = .ok (.ifCond .ne 6, 3) := by decide +kernel
theorem dX12_lay_19 : decode cX12_lay 19 = .ok (.bipush (-2), 2) := by decide +kernel
theorem dX12_lay_21 : decode cX12_lay 21 = .ok (.ireturn, 1) := by decide +kernel
theorem dX12_lay_22 : decode cX12_lay 22 = .ok (.aload_n 0, 1) := by decide +kernel
theorem dX12_lay_23 : decode cX12_lay 23 = .ok (.iload_n 1, 1) := by decide +kernel
theorem dX12_lay_24 : decode cX12_lay 24 = .ok (.iload_n 2, 1) := by decide +kernel
theorem dX12_lay_25 : decode cX12_lay 25 = .ok (.iload_n 3, 1) := by decide +kernel
theorem dX12_lay_26 : decode cX12_lay 26 = .ok (.invokevirtual 84, 3) := by decide +kernel
theorem dX12_lay_29 : decode cX12_lay 29 = .ok (.istore 5, 2) := by decide +kernel
theorem dX12_lay_31 : decode cX12_lay 31 = .ok (.iload 5, 2) := by decide +kernel
theorem dX12_lay_33 : decode cX12_lay 33 = .ok (.ifCond .eq 6, 3) := by decide +kernel
theorem dX12_lay_36 : decode cX12_lay 36 = .ok (.iload 5, 2) := by decide +kernel
theorem dX12_lay_38 : decode cX12_lay 38 = .ok (.ireturn, 1) := by decide +kernel
theorem dX12_get_0 : decode cX12_get 0 = .ok (.iload_n 1, 1) := by decide +kernel
theorem dX12_get_1 : decode cX12_get 1 = .ok (.invokestatic 74, 3) := by decide +kernel
theorem dX12_get_4 : decode cX12_get 4 = .ok (.ifCond .eq 25, 3) := by decide +kernel
theorem dX12_get_7 : decode cX12_get 7 = .ok (.iload_n 2, 1) := by decide +kernel
theorem dX12_get_8 : decode cX12_get 8 = .ok (.i2l, 1) := by decide +kernel
theorem dX12_get_9 : decode cX12_get 9 = .ok (.lconst 0, 1) := by decide +kernel
theorem dX12_get_10 : decode cX12_get 10 = .ok (.ldc2_w 78, 3) := by decide +kernel
theorem dX12_get_13 : decode cX12_get 13 = .ok (.invokestatic 65, 3) := by decide +kernel
theorem dX12_get_16 : decode cX12_get 16 = .ok (.ifCond .eq 13, 3) := by decide +kernel
theorem dX12_get_19 : decode cX12_get 19 = .ok (.aload_n 0, 1) := by decide +kernel
theorem dX12_get_20 : decode cX12_get 20 = .ok (.iload_n 1, 1) := by decide +kernel
theorem dX12_get_21 : decode cX12_get 21 = .ok (.iload_n 2, 1) := by decide +kernel
theorem dX12_get_22 : decode cX12_get 22 = .ok (.iload_n 3, 1) := by decide +kernel
theorem dX12_get_23 : decode cX12_get 23 = .ok (.invokevirtual 84, 3) := by decide +kernel
theorem dX12_get_26 : decode cX12_get 26 = .ok (.ifCond .eq 6, 3) := by decide +kernel
theorem dX12_get_29 : decode cX12_get 29 = .ok (.ldc 92, 2) := by decide +kernel
theorem dX12_get_31 : decode cX12_get 31 = .ok (.ireturn, 1) := by decide +kernel
theorem dX12_copy_0 : decode cX12_copy 0 = .ok (.iload_n 1, 1) := by decide +kernel
theorem dX12_copy_1 : decode cX12_copy 1 = .ok (.invokestatic 74, 3) := by decide +kernel
theorem dX12_copy_4 : decode cX12_copy 4 = .ok (.ifCond .eq 10, 3) := by decide +kernel
theorem dX12_copy_7 : decode cX12_copy 7 = .ok (.iload_n 3, 1) := by decide +kernel
theorem dX12_copy_8 : decode cX12_copy 8 = .ok (.invokestatic 74, 3) := by decide +kernel
theorem dX12_copy_11 : decode cX12_copy 11 = .ok (.ifCond .ne 6, 3) := by decide +kernel
theorem dX12_copy_14 : decode cX12_copy 14 = .ok (.bipush (-2), 2) := by decide +kernel
theorem dX12_copy_16 : decode cX12_copy 16 = .ok (.ireturn, 1) := by decide +kernel
theorem dX12_copy_17 : decode cX12_copy 17 = .ok (.aload_n 0, 1) := by decide +kernel
theorem dX12_copy_18 : decode cX12_copy 18 = .ok (.getfield 7, 3) := by decide +kernel
theorem dX12_copy_21 : decode cX12_copy 21 = .ok (.iload_n 1, 1) := by decide +kernel
theorem dX12_copy_22 : decode cX12_copy 22 = .ok (.iaload, 1) := by decide +kernel
theorem dX12_copy_23 : decode cX12_copy 23 = .ok (.ifCond .lt 12, 3) := by decide +kernel
theorem dX12_copy_35 : decode cX12_copy 35 = .ok (.aload_n 0, 1) := by decide +kernel
theorem dX12_copy_36 : decode cX12_copy 36 = .ok (.iconst 1, 1) := by decide +kernel
theorem dX12_copy_37 : decode cX12_copy 37 = .ok (.invokevirtual 80, 3) := by decide +kernel
theorem dX12_copy_40 : decode cX12_copy 40 = .ok (.ireturn, 1) := by decide +kernel
theorem dX12_isText_0 : decode cX12_isText 0 = .ok (.iload_n 0, 1) := by decide +kernel
theorem dX12_isText_1 : decode cX12_isText 1 = .ok (.i2l, 1) := by decide +kernel
theorem dX12_isText_2 : decode cX12_isText 2 = .ok (.lconst 0, 1) := by decide +kernel
theorem dX12_isText_3 : decode cX12_isText 3 = .ok (.ldc2_w 78, 3) := by decide +kernel
theorem dX12_isText_6 : decode cX12_isText 6 = .ok (.invokestatic 65, 3) := by decide +kernel
theorem dX12_isText_9 : decode cX12_isText 9 = .ok (.ireturn, 1) := by decide +kernel
theorem dX12_type_0 : decode cX12_type 0 = .ok (.iload_n 1, 1) := by decide +kernel
theorem dX12_type_1 : decode cX12_type 1 = .ok (.invokestatic 93, 3) := by decide +kernel
theorem dX12_type_4 : decode cX12_type 4 = .ok (.ifCond .eq 15, 3) := by decide +kernel
theorem dX12_type_7 : decode cX12_type 7 = .ok (.iload_n 2, 1) := by decide +kernel
theorem dX12_type_8 : decode cX12_type 8 = .ok (.i2l, 1) := by decide +kernel
theorem dX12_type_9 : decode cX12_type 9 = .ok (.lconst 0, 1) := by decide +kernel
theorem dX12_type_10 : decode cX12_type 10 = .ok (.ldc2_w 96, 3) := by decide +kernel
theorem dX12_type_13 : decode cX12_type 13 = .ok (.invokestatic 65, 3) := by decide +kernel
theorem dX12_type_16 : decode cX12_type 16 = .ok (.ifCond .ne 6, 3) := by decide +kernel
theorem dX12_type_19 : decode cX12_type 19 = .ok (.bipush (-2), 2) := by decide +kernel
theorem dX12_type_21 : decode cX12_type 21 = .ok (.ireturn, 1) := by decide +kernel
theorem dX12_type_22 : decode cX12_type 22 = .ok (.aload_n 0, 1) := by decide +kernel
theorem dX12_type_23 : decode cX12_type 23 = .ok (.getfield 25, 3) := by decide +kernel
theorem dX12_type_26 : decode cX12_type 26 = .ok (.iload_n 1, 1) := by decide +kernel
theorem dX12_type_27 : decode cX12_type 27 = .ok (.iaload, 1) := by decide +kernel
theorem dX12_type_28 : decode cX12_type 28 = .ok (.iload_n 1, 1) := by decide +kernel
theorem dX12_type_29 : decode cX12_type 29 = .ok (.ifCond .ne 8, 3) := by decide +kernel
theorem dX12_type_32 : decode cX12_type 32 = .ok (.bipush 24, 2) := by decide +kernel
theorem dX12_type_34 : decode cX12_type 34 = .ok (.goto 15, 3) := by decide +kernel
theorem dX12_type_37 : decode cX12_type 37 = .ok (.iload_n 1, 1) := by decide +kernel
theorem dX12_type_38 : decode cX12_type 38 = .ok (.iconst 1, 1) := by decide +kernel
theorem dX12_type_39 : decode cX12_type 39 = .ok (.if_icmp .ne 8, 3) := by decide +kernel
theorem dX12_type_42 : decode cX12_type 42 = .ok (.bipush 39, 2) := by decide +kernel
theorem dX12_type_44 : decode cX12_type 44 = .ok (.goto 5, 3) := by decide +kernel
theorem dX12_type_47 : decode cX12_type 47 = .ok (.bipush 23, 2) := by decide +kernel
theorem dX12_type_49 : decode cX12_type 49 = .ok (.if_icmp .ne 6, 3) := by decide +kernel
theorem dX12_type_55 : decode cX12_type 55 = .ok (.aload_n 0, 1) := by decide +kernel
theorem dX12_type_56 : decode cX12_type 56 = .ok (.getfield 22, 3) := by decide +kernel
theorem dX12_type_59 : decode cX12_type 59 = .ok (.bipush 40, 2) := by decide +kernel
theorem dX12_type_61 : decode cX12_type 61 = .ok (.iload_n 1, 1) := by decide +kernel
theorem dX12_type_62 : decode cX12_type 62 = .ok (.imul, 1) := by decide +kernel
theorem dX12_type_63 : decode cX12_type 63 = .ok (.aload_n 0, 1) := by decide +kernel
theorem dX12_type_64 : decode cX12_type 64 = .ok (.getfield 25, 3) := by decide +kernel
theorem dX12_type_67 : decode cX12_type 67 = .ok (.iload_n 1, 1) := by decide +kernel
theorem dX12_type_68 : decode cX12_type 68 = .ok (.iaload, 1) := by decide +kernel
theorem dX12_type_69 : decode cX12_type 69 = .ok (.iadd, 1) := by decide +kernel
theorem dX12_type_70 : decode cX12_type 70 = .ok (.iload_n 2, 1) := by decide +kernel
theorem dX12_type_71 : decode cX12_type 71 = .ok (.iastore, 1) := by decide +kernel
theorem dX12_type_72 : decode cX12_type 72 = .ok (.aload_n 0, 1) := by decide +kernel
theorem dX12_type_73 : decode cX12_type 73 = .ok (.getfield 25, 3) := by decide +kernel
theorem dX12_type_76 : decode cX12_type 76 = .ok (.iload_n 1, 1) := by decide +kernel
theorem dX12_type_77 : decode cX12_type 77 = .ok (.dup2, 1) := by decide +kernel
theorem dX12_type_78 : decode cX12_type 78 = .ok (.iaload, 1) := by decide +kernel
theorem dX12_type_79 : decode cX12_type 79 = .ok (.iconst 1, 1) := by decide +kernel
theorem dX12_type_80 : decode cX12_type 80 = .ok (.iadd, 1) := by decide +kernel
theorem dX12_type_81 : decode cX12_type 81 = .ok (.iastore, 1) := by decide +kernel
theorem dX12_type_82 : decode cX12_type 82 = .ok (.aload_n 0, 1) := by decide +kernel
theorem dX12_type_83 : decode cX12_type 83 = .ok (.getfield 25, 3) := by decide +kernel
theorem dX12_type_86 : decode cX12_type 86 = .ok (.iload_n 1, 1) := by decide +kernel
theorem dX12_type_87 : decode cX12_type 87 = .ok (.iaload, 1) := by decide +kernel
theorem dX12_type_88 : decode cX12_type 88 = .ok (.ireturn, 1) := by decide +kernel
theorem dX12_wipe_0 : decode cX12_wipe 0 = .ok (.iload_n 1, 1) := by decide +kernel
theorem dX12_wipe_1 : decode cX12_wipe 1 = .ok (.invokestatic 93, 3) := by decide +kernel
theorem dX12_wipe_4 : decode cX12_wipe 4 = .ok (.ifCond .ne 6, 3) := by decide +kernel
theorem dX12_wipe_7 : decode cX12_wipe 7 = .ok (.bipush (-2), 2) := by decide +kernel
theorem dX12_wipe_9 : decode cX12_wipe 9 = .ok (.ireturn, 1) := by decide +kernel
theorem dX12_wipe_10 : decode cX12_wipe 10 = .ok (.aload_n 0, 1) := by decide +kernel
theorem dX12_wipe_11 : decode cX12_wipe 11 = .ok (.getfield 25, 3) := by decide +kernel
theorem dX12_wipe_14 : decode cX12_wipe 14 = .ok (.iload_n 1, 1) := by decide +kernel
theorem dX12_wipe_15 : decode cX12_wipe 15 = .ok (.iaload, 1) := by decide +kernel
theorem dX12_wipe_16 : decode cX12_wipe 16 = .ok (.istore_n 2, 1) := by decide +kernel
theorem dX12_wipe_17 : decode cX12_wipe 17 = .ok (.aload_n 0, 1) := by decide +kernel
theorem dX12_wipe_18 : decode cX12_wipe 18 = .ok (.getfield 25, 3) := by decide +kernel
theorem dX12_wipe_21 : decode cX12_wipe 21 = .ok (.iload_n 1, 1) := by decide +kernel
theorem dX12_wipe_22 : decode cX12_wipe 22 = .ok (.iconst 0, 1) := by decide +kernel
theorem dX12_wipe_23 : decode cX12_wipe 23 = .ok (.iastore, 1) := by decide +kernel
theorem dX12_wipe_24 : decode cX12_wipe 24 = .ok (.iload_n 2, 1) := by decide +kernel
theorem dX12_wipe_25 : decode cX12_wipe 25 = .ok (.ireturn, 1) := by decide +kernel
theorem dX12_undo_0 : decode cX12_undo 0 = .ok (.iload_n 1, 1) := by decide +kernel
theorem dX12_undo_1 : decode cX12_undo 1 = .ok (.invokestatic 93, 3) := by decide +kernel
theorem dX12_undo_4 : decode cX12_undo 4 = .ok (.ifCond .ne 6, 3) := by decide +kernel
theorem dX12_undo_7 : decode cX12_undo 7 = .ok (.bipush (-2), 2) := by decide +kernel
theorem dX12_undo_9 : decode cX12_undo 9 = .ok (.ireturn, 1) := by decide +kernel
theorem dX12_undo_10 : decode cX12_undo 10 = .ok (.aload_n 0, 1) := by decide +kernel
theorem dX12_undo_11 : decode cX12_undo 11 = .ok (.getfield 25, 3) := by decide +kernel
theorem dX12_undo_14 : decode cX12_undo 14 = .ok (.iload_n 1, 1) := by decide +kernel
theorem dX12_undo_15 : decode cX12_undo 15 = .ok (.iaload, 1) := by decide +kernel
theorem dX12_undo_16 : decode cX12_undo 16 = .ok (.ifCond .ne 6, 3) := by decide +kernel
theorem dX12_undo_19 : decode cX12_undo 19 = .ok (.bipush (-3), 2) := by decide +kernel
theorem dX12_undo_21 : decode cX12_undo 21 = .ok (.ireturn, 1) := by decide +kernel
theorem dX12_readsLand_0 : decode cX12_readsLand 0 = .ok (.aload_n 0, 1) := by decide +kernel
theorem dX12_readsLand_1 : decode cX12_readsLand 1 = .ok (.iconst 0, 1) := by decide +kernel
theorem dX12_readsLand_2 : decode cX12_readsLand 2 = .ok (.putfield 107, 3) := by decide +kernel
theorem dX12_readsLand_5 : decode cX12_readsLand 5 = .ok (.iconst 0, 1) := by decide +kernel
theorem dX12_readsLand_6 : decode cX12_readsLand 6 = .ok (.istore_n 1, 1) := by decide +kernel
theorem dX12_readsLand_7 : decode cX12_readsLand 7 = .ok (.iload_n 1, 1) := by decide +kernel
theorem dX12_readsLand_8 : decode cX12_readsLand 8 = .ok (.aload_n 0, 1) := by decide +kernel
theorem dX12_readsLand_9 : decode cX12_readsLand 9 = .ok (.getfield 25, 3) := by decide +kernel
theorem dX12_readsLand_12 : decode cX12_readsLand 12 = .ok (.iconst 0, 1) := by decide +kernel
theorem dX12_readsLand_13 : decode cX12_readsLand 13 = .ok (.iaload, 1) := by decide +kernel
theorem dX12_readsLand_14 : decode cX12_readsLand 14 = .ok (.if_icmp .ge 49, 3) := by decide +kernel
theorem dX12_readsLand_63 : decode cX12_readsLand 63 = .ok (.iconst (-1), 1) := by decide +kernel
theorem dX12_readsLand_64 : decode cX12_readsLand 64 = .ok (.ireturn, 1) := by decide +kernel
theorem dX12_readsPassengers_0 : decode cX12_readsPassengers 0 = .ok (.aload_n 0, 1) := by decide +kernel
theorem dX12_readsPassengers_1 : decode cX12_readsPassengers 1 = .ok (.iconst 0, 1) := by decide +kernel
theorem dX12_readsPassengers_2 : decode cX12_readsPassengers 2 = .ok (.putfield 116, 3) := by decide +kernel
theorem dX12_readsPassengers_5 : decode cX12_readsPassengers 5 = .ok (.aload_n 0, 1) := by decide +kernel
theorem dX12_readsPassengers_6 : decode cX12_readsPassengers 6 = .ok (.getfield 25, 3) := by decide +kernel
theorem dX12_readsPassengers_9 : decode cX12_readsPassengers 9 = .ok (.iconst 1, 1) := by decide +kernel
theorem dX12_readsPassengers_10 : decode cX12_readsPassengers 10 = .ok (.iaload, 1) := by decide +kernel
theorem dX12_readsPassengers_11 : decode cX12_readsPassengers 11 = .ok (.istore_n 1, 1) := by decide +kernel
theorem dX12_readsPassengers_12 : decode cX12_readsPassengers 12 = .ok (.iconst 0, 1) := by decide +kernel
theorem dX12_readsPassengers_13 : decode cX12_readsPassengers 13 = .ok (.istore_n 2, 1) := by decide +kernel
theorem dX12_readsPassengers_14 : decode cX12_readsPassengers 14 = .ok (.iload_n 2, 1) := by decide +kernel
theorem dX12_readsPassengers_15 : decode cX12_readsPassengers 15 = .ok (.iload_n 1, 1) := by decide +kernel
theorem dX12_readsPassengers_16 : decode cX12_readsPassengers 16 = .ok (.if_icmp .ge 80, 3) := by decide +kernel
theorem dX12_readsPassengers_96 : decode cX12_readsPassengers 96 = .ok (.iload_n 1, 1) := by decide +kernel
theorem dX12_readsPassengers_97 : decode cX12_readsPassengers 97 = .ok (.ifCond .le 17, 3) := by decide +kernel
theorem dX12_readsPassengers_114 : decode cX12_readsPassengers 114 = .ok (.iconst (-1), 1) := by decide +kernel
theorem dX12_readsPassengers_115 : decode cX12_readsPassengers 115 = .ok (.ireturn, 1) := by decide +kernel
theorem dX12_readsGeese_0 : decode cX12_readsGeese 0 = .ok (.aload_n 0, 1) := by decide +kernel
theorem dX12_readsGeese_1 : decode cX12_readsGeese 1 = .ok (.iconst 0, 1) := by decide +kernel
theorem dX12_readsGeese_2 : decode cX12_readsGeese 2 = .ok (.putfield 122, 3) := by decide +kernel
theorem dX12_readsGeese_5 : decode cX12_readsGeese 5 = .ok (.aload_n 0, 1) := by decide +kernel
theorem dX12_readsGeese_6 : decode cX12_readsGeese 6 = .ok (.getfield 25, 3) := by decide +kernel
theorem dX12_readsGeese_9 : decode cX12_readsGeese 9 = .ok (.iconst 2, 1) := by decide +kernel
theorem dX12_readsGeese_10 : decode cX12_readsGeese 10 = .ok (.iaload, 1) := by decide +kernel
theorem dX12_readsGeese_11 : decode cX12_readsGeese 11 = .ok (.istore_n 1, 1) := by decide +kernel
theorem dX12_readsGeese_12 : decode cX12_readsGeese 12 = .ok (.iconst 0, 1) := by decide +kernel
theorem dX12_readsGeese_13 : decode cX12_readsGeese 13 = .ok (.istore_n 2, 1) := by decide +kernel
theorem dX12_readsGeese_14 : decode cX12_readsGeese 14 = .ok (.iload_n 2, 1) := by decide +kernel
theorem dX12_readsGeese_15 : decode cX12_readsGeese 15 = .ok (.iload_n 1, 1) := by decide +kernel
theorem dX12_readsGeese_16 : decode cX12_readsGeese 16 = .ok (.if_icmp .ge 80, 3) := by decide +kernel
theorem dX12_readsGeese_96 : decode cX12_readsGeese 96 = .ok (.iload_n 1, 1) := by decide +kernel
theorem dX12_readsGeese_97 : decode cX12_readsGeese 97 = .ok (.ifCond .le 17, 3) := by decide +kernel
theorem dX12_readsGeese_114 : decode cX12_readsGeese 114 = .ok (.iconst (-1), 1) := by decide +kernel
theorem dX12_readsGeese_115 : decode cX12_readsGeese 115 = .ok (.ireturn, 1) := by decide +kernel
theorem dX12_readsText_0 : decode cX12_readsText 0 = .ok (.iload_n 1, 1) := by decide +kernel
theorem dX12_readsText_1 : decode cX12_readsText 1 = .ok (.ifCond .ne 10, 3) := by decide +kernel
theorem dX12_readsText_4 : decode cX12_readsText 4 = .ok (.aload_n 0, 1) := by decide +kernel
theorem dX12_readsText_5 : decode cX12_readsText 5 = .ok (.invokevirtual 128, 3) := by decide +kernel
theorem dX12_readsText_8 : decode cX12_readsText 8 = .ok (.goto 19, 3) := by decide +kernel
theorem dX12_readsText_11 : decode cX12_readsText 11 = .ok (.iload_n 1, 1) := by decide +kernel
theorem dX12_readsText_12 : decode cX12_readsText 12 = .ok (.iconst 1, 1) := by decide +kernel
theorem dX12_readsText_13 : decode cX12_readsText 13 = .ok (.if_icmp .ne 10, 3) := by decide +kernel
theorem dX12_readsText_16 : decode cX12_readsText 16 = .ok (.aload_n 0, 1) := by decide +kernel
theorem dX12_readsText_17 : decode cX12_readsText 17 = .ok (.invokevirtual 132, 3) := by decide +kernel
theorem dX12_readsText_20 : decode cX12_readsText 20 = .ok (.goto 7, 3) := by decide +kernel
theorem dX12_readsText_23 : decode cX12_readsText 23 = .ok (.aload_n 0, 1) := by decide +kernel
theorem dX12_readsText_24 : decode cX12_readsText 24 = .ok (.invokevirtual 135, 3) := by decide +kernel
theorem dX12_readsText_27 : decode cX12_readsText 27 = .ok (.ireturn, 1) := by decide +kernel
theorem dX12_fault_0 : decode cX12_fault 0 = .ok (.iload_n 1, 1) := by decide +kernel
theorem dX12_fault_1 : decode cX12_fault 1 = .ok (.invokestatic 93, 3) := by decide +kernel
theorem dX12_fault_4 : decode cX12_fault 4 = .ok (.ifCond .eq 11, 3) := by decide +kernel
theorem dX12_fault_7 : decode cX12_fault 7 = .ok (.aload_n 0, 1) := by decide +kernel
theorem dX12_fault_8 : decode cX12_fault 8 = .ok (.iload_n 1, 1) := by decide +kernel
theorem dX12_fault_9 : decode cX12_fault 9 = .ok (.invokevirtual 138, 3) := by decide +kernel
theorem dX12_fault_12 : decode cX12_fault 12 = .ok (.goto 5, 3) := by decide +kernel
theorem dX12_fault_15 : decode cX12_fault 15 = .ok (.bipush (-2), 2) := by decide +kernel
theorem dX12_fault_17 : decode cX12_fault 17 = .ok (.ireturn, 1) := by decide +kernel
theorem dX12_reads_0 : decode cX12_reads 0 = .ok (.aload_n 0, 1) := by decide +kernel
theorem dX12_reads_1 : decode cX12_reads 1 = .ok (.invokevirtual 128, 3) := by decide +kernel
theorem dX12_reads_4 : decode cX12_reads 4 = .ok (.pop, 1) := by decide +kernel
theorem dX12_reads_5 : decode cX12_reads 5 = .ok (.aload_n 0, 1) := by decide +kernel
theorem dX12_reads_6 : decode cX12_reads 6 = .ok (.invokevirtual 132, 3) := by decide +kernel
theorem dX12_reads_9 : decode cX12_reads 9 = .ok (.pop, 1) := by decide +kernel
theorem dX12_reads_10 : decode cX12_reads 10 = .ok (.aload_n 0, 1) := by decide +kernel
theorem dX12_reads_11 : decode cX12_reads 11 = .ok (.invokevirtual 135, 3) := by decide +kernel
theorem dX12_reads_14 : decode cX12_reads 14 = .ok (.pop, 1) := by decide +kernel
theorem dX12_reads_15 : decode cX12_reads 15 = .ok (.return_, 1) := by decide +kernel
theorem dX12_isPassenger_0 : decode cX12_isPassenger 0 = .ok (.iload_n 1, 1) := by decide +kernel
theorem dX12_isPassenger_1 : decode cX12_isPassenger 1 = .ok (.i2l, 1) := by decide +kernel
theorem dX12_isPassenger_2 : decode cX12_isPassenger 2 = .ok (.lconst 0, 1) := by decide +kernel
theorem dX12_isPassenger_3 : decode cX12_isPassenger 3 = .ok (.aload_n 0, 1) := by decide +kernel
theorem dX12_isPassenger_4 : decode cX12_isPassenger 4 = .ok (.getfield 116, 3) := by decide +kernel
theorem dX12_isPassenger_7 : decode cX12_isPassenger 7 = .ok (.iconst 1, 1) := by decide +kernel
theorem dX12_isPassenger_8 : decode cX12_isPassenger 8 = .ok (.isub, 1) := by decide +kernel
theorem dX12_isPassenger_9 : decode cX12_isPassenger 9 = .ok (.i2l, 1) := by decide +kernel
theorem dX12_isPassenger_10 : decode cX12_isPassenger 10 = .ok (.invokestatic 65, 3) := by decide +kernel
theorem dX12_isPassenger_13 : decode cX12_isPassenger 13 = .ok (.ireturn, 1) := by decide +kernel
theorem dX12_isGoose_0 : decode cX12_isGoose 0 = .ok (.iload_n 1, 1) := by decide +kernel
theorem dX12_isGoose_1 : decode cX12_isGoose 1 = .ok (.i2l, 1) := by decide +kernel
theorem dX12_isGoose_2 : decode cX12_isGoose 2 = .ok (.lconst 0, 1) := by decide +kernel
theorem dX12_isGoose_3 : decode cX12_isGoose 3 = .ok (.aload_n 0, 1) := by decide +kernel
theorem dX12_isGoose_4 : decode cX12_isGoose 4 = .ok (.getfield 122, 3) := by decide +kernel
theorem dX12_isGoose_7 : decode cX12_isGoose 7 = .ok (.iconst 1, 1) := by decide +kernel
theorem dX12_isGoose_8 : decode cX12_isGoose 8 = .ok (.isub, 1) := by decide +kernel
theorem dX12_isGoose_9 : decode cX12_isGoose 9 = .ok (.i2l, 1) := by decide +kernel
theorem dX12_isGoose_10 : decode cX12_isGoose 10 = .ok (.invokestatic 65, 3) := by decide +kernel
theorem dX12_isGoose_13 : decode cX12_isGoose 13 = .ok (.ireturn, 1) := by decide +kernel
theorem dX12_mile_0 : decode cX12_mile 0 = .ok (.aload_n 0, 1) := by decide +kernel
theorem dX12_mile_1 : decode cX12_mile 1 = .ok (.invokevirtual 141, 3) := by decide +kernel
theorem dX12_mile_4 : decode cX12_mile 4 = .ok (.iload_n 1, 1) := by decide +kernel
theorem dX12_mile_5 : decode cX12_mile 5 = .ok (.i2l, 1) := by decide +kernel
theorem dX12_mile_6 : decode cX12_mile 6 = .ok (.lconst 0, 1) := by decide +kernel
