theorem kE_cX0_init : kDc cX0_init 760259589930 5 := by unfold kDc; decide +kernel
theorem dX0_init_0 : decode cX0_init 0 = .ok (.aload_n 0, 1) := kD42 (kBe kE_cX0_init rfl rfl)
theorem dX0_init_1 : decode cX0_init 1 = .ok (.invokespecial 3, 3) := kD183 (kBe kE_cX0_init rfl rfl) (kBe kE_cX0_init rfl rfl) (kBe kE_cX0_init rfl rfl)
theorem dX0_init_4 : decode cX0_init 4 = .ok (.return_, 1) := kD177 (kBe kE_cX0_init rfl rfl)
theorem kE_cX0_told : kDc cX0_told 26485850330975731927888016301481076034155746379495269605388649518884706767063767917326612852478568841126296319732251 48 := by unfold kDc; decide +kernel
theorem dX0_told_0 : decode cX0_told 0 = .ok (.iload_n 1, 1) := kD27 (kBe kE_cX0_told rfl rfl)
theorem dX0_told_28 : decode cX0_told 28 = .ok (.aload_n 0, 1) := kD42 (kBe kE_cX0_told rfl rfl)
theorem dX0_told_29 : decode cX0_told 29 = .ok (.getfield 9, 3) := kD180 (kBe kE_cX0_told rfl rfl) (kBe kE_cX0_told rfl rfl) (kBe kE_cX0_told rfl rfl)
theorem dX0_told_32 : decode cX0_told 32 = .ok (.ireturn, 1) := kD172 (kBe kE_cX0_told rfl rfl)
theorem dX0_told_33 : decode cX0_told 33 = .ok (.aload_n 0, 1) := kD42 (kBe kE_cX0_told rfl rfl)
theorem dX0_told_34 : decode cX0_told 34 = .ok (.getfield 15, 3) := kD180 (kBe kE_cX0_told rfl rfl) (kBe kE_cX0_told rfl rfl) (kBe kE_cX0_told rfl rfl)
theorem dX0_told_37 : decode cX0_told 37 = .ok (.ireturn, 1) := kD172 (kBe kE_cX0_told rfl rfl)
theorem dX0_told_38 : decode cX0_told 38 = .ok (.aload_n 0, 1) := kD42 (kBe kE_cX0_told rfl rfl)
theorem dX0_told_39 : decode cX0_told 39 = .ok (.getfield 18, 3) := kD180 (kBe kE_cX0_told rfl rfl) (kBe kE_cX0_told rfl rfl) (kBe kE_cX0_told rfl rfl)
theorem dX0_told_42 : decode cX0_told 42 = .ok (.ireturn, 1) := kD172 (kBe kE_cX0_told rfl rfl)
theorem dX0_told_43 : decode cX0_told 43 = .ok (.aload_n 0, 1) := kD42 (kBe kE_cX0_told rfl rfl)
theorem dX0_told_44 : decode cX0_told 44 = .ok (.getfield 21, 3) := kD180 (kBe kE_cX0_told rfl rfl) (kBe kE_cX0_told rfl rfl) (kBe kE_cX0_told rfl rfl)
theorem dX0_told_47 : decode cX0_told 47 = .ok (.ireturn, 1) := kD172 (kBe kE_cX0_told rfl rfl)
theorem kE_cX0_plan : kDc cX0_plan 124677651862404473089098325181577518731648736556144505589406645113568327928887330618807949204732808839245304223092408208299206087389641836804060900380529082320901973965485014369105683961455916769152230254469581693978415783294259869500159178881526385247142807071268399822441767718297672036486063997334716744234 128 := by unfold kDc; decide +kernel
theorem dX0_plan_0 : decode cX0_plan 0 = .ok (.aload_n 0, 1) := kD42 (kBe kE_cX0_plan rfl rfl)
theorem dX0_plan_1 : decode cX0_plan 1 = .ok (.iconst (-1), 1) := kD2 (kBe kE_cX0_plan rfl rfl)
theorem dX0_plan_2 : decode cX0_plan 2 = .ok (.putfield 21, 3) := kD181 (kBe kE_cX0_plan rfl rfl) (kBe kE_cX0_plan rfl rfl) (kBe kE_cX0_plan rfl rfl)
theorem dX0_plan_5 : decode cX0_plan 5 = .ok (.iconst 1, 1) := kD4 (kBe kE_cX0_plan rfl rfl)
theorem dX0_plan_6 : decode cX0_plan 6 = .ok (.istore_n 3, 1) := kD62 (kBe kE_cX0_plan rfl rfl)
theorem dX0_plan_7 : decode cX0_plan 7 = .ok (.iload_n 3, 1) := kD29 (kBe kE_cX0_plan rfl rfl)
theorem dX0_plan_8 : decode cX0_plan 8 = .ok (.bipush 9, 2) := kD16 (kBe kE_cX0_plan rfl rfl) (kBe kE_cX0_plan rfl rfl) kS8_9
theorem dX0_plan_10 : decode cX0_plan 10 = .ok (.if_icmp .gt 117, 3) := kD163 (kBe kE_cX0_plan rfl rfl) (kBe kE_cX0_plan rfl rfl) (kBe kE_cX0_plan rfl rfl) kS16_0_117
theorem dX0_plan_13 : decode cX0_plan 13 = .ok (.aload_n 0, 1) := kD42 (kBe kE_cX0_plan rfl rfl)
theorem dX0_plan_14 : decode cX0_plan 14 = .ok (.getfield 21, 3) := kD180 (kBe kE_cX0_plan rfl rfl) (kBe kE_cX0_plan rfl rfl) (kBe kE_cX0_plan rfl rfl)
theorem dX0_plan_17 : decode cX0_plan 17 = .ok (.aload_n 1, 1) := kD43 (kBe kE_cX0_plan rfl rfl)
theorem dX0_plan_18 : decode cX0_plan 18 = .ok (.getfield 24, 3) := kD180 (kBe kE_cX0_plan rfl rfl) (kBe kE_cX0_plan rfl rfl) (kBe kE_cX0_plan rfl rfl)
theorem dX0_plan_21 : decode cX0_plan 21 = .ok (.if_icmp .ge 106, 3) := kD162 (kBe kE_cX0_plan rfl rfl) (kBe kE_cX0_plan rfl rfl) (kBe kE_cX0_plan rfl rfl) kS16_0_106
theorem dX0_plan_24 : decode cX0_plan 24 = .ok (.aload_n 1, 1) := kD43 (kBe kE_cX0_plan rfl rfl)
theorem dX0_plan_25 : decode cX0_plan 25 = .ok (.invokevirtual 29, 3) := kD182 (kBe kE_cX0_plan rfl rfl) (kBe kE_cX0_plan rfl rfl) (kBe kE_cX0_plan rfl rfl)
theorem dX0_plan_28 : decode cX0_plan 28 = .ok (.iconst 1, 1) := kD4 (kBe kE_cX0_plan rfl rfl)
theorem dX0_plan_29 : decode cX0_plan 29 = .ok (.istore 4, 2) := kD54 (kBe kE_cX0_plan rfl rfl) (kBe kE_cX0_plan rfl rfl)
theorem dX0_plan_31 : decode cX0_plan 31 = .ok (.iconst 1, 1) := kD4 (kBe kE_cX0_plan rfl rfl)
theorem dX0_plan_32 : decode cX0_plan 32 = .ok (.istore 5, 2) := kD54 (kBe kE_cX0_plan rfl rfl) (kBe kE_cX0_plan rfl rfl)
theorem dX0_plan_34 : decode cX0_plan 34 = .ok (.iload 5, 2) := kD21 (kBe kE_cX0_plan rfl rfl) (kBe kE_cX0_plan rfl rfl)
theorem dX0_plan_36 : decode cX0_plan 36 = .ok (.bipush 24, 2) := kD16 (kBe kE_cX0_plan rfl rfl) (kBe kE_cX0_plan rfl rfl) kS8_24
theorem dX0_plan_38 : decode cX0_plan 38 = .ok (.if_icmp .ge 83, 3) := kD162 (kBe kE_cX0_plan rfl rfl) (kBe kE_cX0_plan rfl rfl) (kBe kE_cX0_plan rfl rfl) kS16_0_83
theorem dX0_plan_41 : decode cX0_plan 41 = .ok (.iload 4, 2) := kD21 (kBe kE_cX0_plan rfl rfl) (kBe kE_cX0_plan rfl rfl)
theorem dX0_plan_43 : decode cX0_plan 43 = .ok (.ifCond .eq 78, 3) := kD153 (kBe kE_cX0_plan rfl rfl) (kBe kE_cX0_plan rfl rfl) (kBe kE_cX0_plan rfl rfl) kS16_0_78
theorem dX0_plan_46 : decode cX0_plan 46 = .ok (.aload_n 0, 1) := kD42 (kBe kE_cX0_plan rfl rfl)
theorem dX0_plan_47 : decode cX0_plan 47 = .ok (.getfield 21, 3) := kD180 (kBe kE_cX0_plan rfl rfl) (kBe kE_cX0_plan rfl rfl) (kBe kE_cX0_plan rfl rfl)
theorem dX0_plan_50 : decode cX0_plan 50 = .ok (.aload_n 1, 1) := kD43 (kBe kE_cX0_plan rfl rfl)
theorem dX0_plan_51 : decode cX0_plan 51 = .ok (.getfield 24, 3) := kD180 (kBe kE_cX0_plan rfl rfl) (kBe kE_cX0_plan rfl rfl) (kBe kE_cX0_plan rfl rfl)
theorem dX0_plan_54 : decode cX0_plan 54 = .ok (.if_icmp .ge 67, 3) := kD162 (kBe kE_cX0_plan rfl rfl) (kBe kE_cX0_plan rfl rfl) (kBe kE_cX0_plan rfl rfl) kS16_0_67
theorem dX0_plan_57 : decode cX0_plan 57 = .ok (.aload_n 1, 1) := kD43 (kBe kE_cX0_plan rfl rfl)
theorem dX0_plan_58 : decode cX0_plan 58 = .ok (.iload 5, 2) := kD21 (kBe kE_cX0_plan rfl rfl) (kBe kE_cX0_plan rfl rfl)
theorem dX0_plan_60 : decode cX0_plan 60 = .ok (.iconst 1, 1) := kD4 (kBe kE_cX0_plan rfl rfl)
theorem dX0_plan_61 : decode cX0_plan 61 = .ok (.isub, 1) := kD100 (kBe kE_cX0_plan rfl rfl)
theorem dX0_plan_62 : decode cX0_plan 62 = .ok (.iload 5, 2) := kD21 (kBe kE_cX0_plan rfl rfl) (kBe kE_cX0_plan rfl rfl)
theorem dX0_plan_64 : decode cX0_plan 64 = .ok (.iload_n 2, 1) := kD28 (kBe kE_cX0_plan rfl rfl)
theorem dX0_plan_65 : decode cX0_plan 65 = .ok (.invokestatic 32, 3) := kD184 (kBe kE_cX0_plan rfl rfl) (kBe kE_cX0_plan rfl rfl) (kBe kE_cX0_plan rfl rfl)
theorem dX0_plan_68 : decode cX0_plan 68 = .ok (.iload_n 3, 1) := kD29 (kBe kE_cX0_plan rfl rfl)
theorem dX0_plan_69 : decode cX0_plan 69 = .ok (.invokevirtual 38, 3) := kD182 (kBe kE_cX0_plan rfl rfl) (kBe kE_cX0_plan rfl rfl) (kBe kE_cX0_plan rfl rfl)
theorem dX0_plan_72 : decode cX0_plan 72 = .ok (.istore 6, 2) := kD54 (kBe kE_cX0_plan rfl rfl) (kBe kE_cX0_plan rfl rfl)
theorem dX0_plan_74 : decode cX0_plan 74 = .ok (.iload 6, 2) := kD21 (kBe kE_cX0_plan rfl rfl) (kBe kE_cX0_plan rfl rfl)
theorem dX0_plan_76 : decode cX0_plan 76 = .ok (.iload 5, 2) := kD21 (kBe kE_cX0_plan rfl rfl) (kBe kE_cX0_plan rfl rfl)
theorem dX0_plan_78 : decode cX0_plan 78 = .ok (.if_icmp .ne 7, 3) := kD160 (kBe kE_cX0_plan rfl rfl) (kBe kE_cX0_plan rfl rfl) (kBe kE_cX0_plan rfl rfl) kS16_0_7
theorem dX0_plan_81 : decode cX0_plan 81 = .ok (.iconst 1, 1) := kD4 (kBe kE_cX0_plan rfl rfl)
theorem dX0_plan_82 : decode cX0_plan 82 = .ok (.goto 4, 3) := kD167 (kBe kE_cX0_plan rfl rfl) (kBe kE_cX0_plan rfl rfl) (kBe kE_cX0_plan rfl rfl) kS16_0_4
theorem dX0_plan_85 : decode cX0_plan 85 = .ok (.iconst 0, 1) := kD3 (kBe kE_cX0_plan rfl rfl)
theorem dX0_plan_86 : decode cX0_plan 86 = .ok (.istore 4, 2) := kD54 (kBe kE_cX0_plan rfl rfl) (kBe kE_cX0_plan rfl rfl)
theorem dX0_plan_88 : decode cX0_plan 88 = .ok (.iload 4, 2) := kD21 (kBe kE_cX0_plan rfl rfl) (kBe kE_cX0_plan rfl rfl)
theorem dX0_plan_90 : decode cX0_plan 90 = .ok (.ifCond .eq 15, 3) := kD153 (kBe kE_cX0_plan rfl rfl) (kBe kE_cX0_plan rfl rfl) (kBe kE_cX0_plan rfl rfl) kS16_0_15
theorem dX0_plan_93 : decode cX0_plan 93 = .ok (.aload_n 0, 1) := kD42 (kBe kE_cX0_plan rfl rfl)
theorem dX0_plan_94 : decode cX0_plan 94 = .ok (.aload_n 1, 1) := kD43 (kBe kE_cX0_plan rfl rfl)
theorem dX0_plan_95 : decode cX0_plan 95 = .ok (.iload_n 2, 1) := kD28 (kBe kE_cX0_plan rfl rfl)
theorem dX0_plan_96 : decode cX0_plan 96 = .ok (.iload_n 3, 1) := kD29 (kBe kE_cX0_plan rfl rfl)
theorem dX0_plan_97 : decode cX0_plan 97 = .ok (.iload 5, 2) := kD21 (kBe kE_cX0_plan rfl rfl) (kBe kE_cX0_plan rfl rfl)
theorem dX0_plan_99 : decode cX0_plan 99 = .ok (.invokevirtual 42, 3) := kD182 (kBe kE_cX0_plan rfl rfl) (kBe kE_cX0_plan rfl rfl) (kBe kE_cX0_plan rfl rfl)
theorem dX0_plan_102 : decode cX0_plan 102 = .ok (.goto 13, 3) := kD167 (kBe kE_cX0_plan rfl rfl) (kBe kE_cX0_plan rfl rfl) (kBe kE_cX0_plan rfl rfl) kS16_0_13
theorem dX0_plan_105 : decode cX0_plan 105 = .ok (.aload_n 0, 1) := kD42 (kBe kE_cX0_plan rfl rfl)
theorem dX0_plan_106 : decode cX0_plan 106 = .ok (.iload 6, 2) := kD21 (kBe kE_cX0_plan rfl rfl) (kBe kE_cX0_plan rfl rfl)
theorem dX0_plan_108 : decode cX0_plan 108 = .ok (.iload_n 3, 1) := kD29 (kBe kE_cX0_plan rfl rfl)
theorem dX0_plan_109 : decode cX0_plan 109 = .ok (.iload 5, 2) := kD21 (kBe kE_cX0_plan rfl rfl) (kBe kE_cX0_plan rfl rfl)
theorem dX0_plan_111 : decode cX0_plan 111 = .ok (.iconst 1, 1) := kD4 (kBe kE_cX0_plan rfl rfl)
theorem dX0_plan_112 : decode cX0_plan 112 = .ok (.invokevirtual 46, 3) := kD182 (kBe kE_cX0_plan rfl rfl) (kBe kE_cX0_plan rfl rfl) (kBe kE_cX0_plan rfl rfl)
theorem dX0_plan_115 : decode cX0_plan 115 = .ok (.iinc 5 1, 3) := kD132 (kBe kE_cX0_plan rfl rfl) (kBe kE_cX0_plan rfl rfl) (kBe kE_cX0_plan rfl rfl) kS8_1
theorem dX0_plan_118 : decode cX0_plan 118 = .ok (.goto (-84), 3) := kD167 (kBe kE_cX0_plan rfl rfl) (kBe kE_cX0_plan rfl rfl) (kBe kE_cX0_plan rfl rfl) kS16_255_172
theorem dX0_plan_121 : decode cX0_plan 121 = .ok (.iinc 3 1, 3) := kD132 (kBe kE_cX0_plan rfl rfl) (kBe kE_cX0_plan rfl rfl) (kBe kE_cX0_plan rfl rfl) kS8_1
theorem dX0_plan_124 : decode cX0_plan 124 = .ok (.goto (-117), 3) := kD167 (kBe kE_cX0_plan rfl rfl) (kBe kE_cX0_plan rfl rfl) (kBe kE_cX0_plan rfl rfl) kS16_255_139
theorem dX0_plan_127 : decode cX0_plan 127 = .ok (.return_, 1) := kD177 (kBe kE_cX0_plan rfl rfl)
theorem kE_cX0_trySecond : kDc cX0_trySecond 8471613258605790716244746252247613173232708334963166513281430525719597955296282798664294172766094007699435964993028428225064200650387556971563 59 := by unfold kDc; decide +kernel
theorem dX0_trySecond_0 : decode cX0_trySecond 0 = .ok (.aload_n 1, 1) := kD43 (kBe kE_cX0_trySecond rfl rfl)
theorem dX0_trySecond_1 : decode cX0_trySecond 1 = .ok (.getfield 50, 3) := kD180 (kBe kE_cX0_trySecond rfl rfl) (kBe kE_cX0_trySecond rfl rfl) (kBe kE_cX0_trySecond rfl rfl)
theorem dX0_trySecond_4 : decode cX0_trySecond 4 = .ok (.istore 5, 2) := kD54 (kBe kE_cX0_trySecond rfl rfl) (kBe kE_cX0_trySecond rfl rfl)
theorem dX0_trySecond_6 : decode cX0_trySecond 6 = .ok (.aload_n 1, 1) := kD43 (kBe kE_cX0_trySecond rfl rfl)
theorem dX0_trySecond_7 : decode cX0_trySecond 7 = .ok (.getfield 53, 3) := kD180 (kBe kE_cX0_trySecond rfl rfl) (kBe kE_cX0_trySecond rfl rfl) (kBe kE_cX0_trySecond rfl rfl)
theorem dX0_trySecond_10 : decode cX0_trySecond 10 = .ok (.istore 6, 2) := kD54 (kBe kE_cX0_trySecond rfl rfl) (kBe kE_cX0_trySecond rfl rfl)
theorem dX0_trySecond_12 : decode cX0_trySecond 12 = .ok (.iconst 1, 1) := kD4 (kBe kE_cX0_trySecond rfl rfl)
theorem dX0_trySecond_13 : decode cX0_trySecond 13 = .ok (.istore 7, 2) := kD54 (kBe kE_cX0_trySecond rfl rfl) (kBe kE_cX0_trySecond rfl rfl)
theorem dX0_trySecond_15 : decode cX0_trySecond 15 = .ok (.iload 7, 2) := kD21 (kBe kE_cX0_trySecond rfl rfl) (kBe kE_cX0_trySecond rfl rfl)
theorem dX0_trySecond_17 : decode cX0_trySecond 17 = .ok (.bipush 9, 2) := kD16 (kBe kE_cX0_trySecond rfl rfl) (kBe kE_cX0_trySecond rfl rfl) kS8_9
theorem dX0_trySecond_19 : decode cX0_trySecond 19 = .ok (.if_icmp .gt 39, 3) := kD163 (kBe kE_cX0_trySecond rfl rfl) (kBe kE_cX0_trySecond rfl rfl) (kBe kE_cX0_trySecond rfl rfl) kS16_0_39
theorem dX0_trySecond_22 : decode cX0_trySecond 22 = .ok (.aload_n 0, 1) := kD42 (kBe kE_cX0_trySecond rfl rfl)
theorem dX0_trySecond_23 : decode cX0_trySecond 23 = .ok (.aload_n 1, 1) := kD43 (kBe kE_cX0_trySecond rfl rfl)
theorem dX0_trySecond_24 : decode cX0_trySecond 24 = .ok (.iload 4, 2) := kD21 (kBe kE_cX0_trySecond rfl rfl) (kBe kE_cX0_trySecond rfl rfl)
theorem dX0_trySecond_26 : decode cX0_trySecond 26 = .ok (.iload_n 2, 1) := kD28 (kBe kE_cX0_trySecond rfl rfl)
theorem dX0_trySecond_27 : decode cX0_trySecond 27 = .ok (.iload 7, 2) := kD21 (kBe kE_cX0_trySecond rfl rfl) (kBe kE_cX0_trySecond rfl rfl)
theorem dX0_trySecond_29 : decode cX0_trySecond 29 = .ok (.invokevirtual 38, 3) := kD182 (kBe kE_cX0_trySecond rfl rfl) (kBe kE_cX0_trySecond rfl rfl) (kBe kE_cX0_trySecond rfl rfl)
theorem dX0_trySecond_32 : decode cX0_trySecond 32 = .ok (.iload_n 3, 1) := kD29 (kBe kE_cX0_trySecond rfl rfl)
theorem dX0_trySecond_33 : decode cX0_trySecond 33 = .ok (.iload 4, 2) := kD21 (kBe kE_cX0_trySecond rfl rfl) (kBe kE_cX0_trySecond rfl rfl)
theorem dX0_trySecond_35 : decode cX0_trySecond 35 = .ok (.iload 7, 2) := kD21 (kBe kE_cX0_trySecond rfl rfl) (kBe kE_cX0_trySecond rfl rfl)
theorem dX0_trySecond_37 : decode cX0_trySecond 37 = .ok (.invokevirtual 46, 3) := kD182 (kBe kE_cX0_trySecond rfl rfl) (kBe kE_cX0_trySecond rfl rfl) (kBe kE_cX0_trySecond rfl rfl)
theorem dX0_trySecond_40 : decode cX0_trySecond 40 = .ok (.aload_n 1, 1) := kD43 (kBe kE_cX0_trySecond rfl rfl)
theorem dX0_trySecond_41 : decode cX0_trySecond 41 = .ok (.iload 5, 2) := kD21 (kBe kE_cX0_trySecond rfl rfl) (kBe kE_cX0_trySecond rfl rfl)
theorem dX0_trySecond_43 : decode cX0_trySecond 43 = .ok (.putfield 50, 3) := kD181 (kBe kE_cX0_trySecond rfl rfl) (kBe kE_cX0_trySecond rfl rfl) (kBe kE_cX0_trySecond rfl rfl)
theorem dX0_trySecond_46 : decode cX0_trySecond 46 = .ok (.aload_n 1, 1) := kD43 (kBe kE_cX0_trySecond rfl rfl)
theorem dX0_trySecond_47 : decode cX0_trySecond 47 = .ok (.iload 6, 2) := kD21 (kBe kE_cX0_trySecond rfl rfl) (kBe kE_cX0_trySecond rfl rfl)
theorem dX0_trySecond_49 : decode cX0_trySecond 49 = .ok (.putfield 53, 3) := kD181 (kBe kE_cX0_trySecond rfl rfl) (kBe kE_cX0_trySecond rfl rfl) (kBe kE_cX0_trySecond rfl rfl)
theorem dX0_trySecond_52 : decode cX0_trySecond 52 = .ok (.iinc 7 1, 3) := kD132 (kBe kE_cX0_trySecond rfl rfl) (kBe kE_cX0_trySecond rfl rfl) (kBe kE_cX0_trySecond rfl rfl) kS8_1
theorem dX0_trySecond_55 : decode cX0_trySecond 55 = .ok (.goto (-40), 3) := kD167 (kBe kE_cX0_trySecond rfl rfl) (kBe kE_cX0_trySecond rfl rfl) (kBe kE_cX0_trySecond rfl rfl) kS16_255_216
theorem dX0_trySecond_58 : decode cX0_trySecond 58 = .ok (.return_, 1) := kD177 (kBe kE_cX0_trySecond rfl rfl)
theorem kE_cX0_note : kDc cX0_note 1222094456887580323264291012538752187591204859711247361912312121819146779 30 := by unfold kDc; decide +kernel
theorem dX0_note_0 : decode cX0_note 0 = .ok (.iload_n 1, 1) := kD27 (kBe kE_cX0_note rfl rfl)
theorem dX0_note_1 : decode cX0_note 1 = .ok (.aload_n 0, 1) := kD42 (kBe kE_cX0_note rfl rfl)
theorem dX0_note_2 : decode cX0_note 2 = .ok (.getfield 21, 3) := kD180 (kBe kE_cX0_note rfl rfl) (kBe kE_cX0_note rfl rfl) (kBe kE_cX0_note rfl rfl)
theorem dX0_note_5 : decode cX0_note 5 = .ok (.if_icmp .le 24, 3) := kD164 (kBe kE_cX0_note rfl rfl) (kBe kE_cX0_note rfl rfl) (kBe kE_cX0_note rfl rfl) kS16_0_24
theorem dX0_note_8 : decode cX0_note 8 = .ok (.aload_n 0, 1) := kD42 (kBe kE_cX0_note rfl rfl)
theorem dX0_note_9 : decode cX0_note 9 = .ok (.iload_n 1, 1) := kD27 (kBe kE_cX0_note rfl rfl)
theorem dX0_note_10 : decode cX0_note 10 = .ok (.putfield 21, 3) := kD181 (kBe kE_cX0_note rfl rfl) (kBe kE_cX0_note rfl rfl) (kBe kE_cX0_note rfl rfl)
theorem dX0_note_13 : decode cX0_note 13 = .ok (.aload_n 0, 1) := kD42 (kBe kE_cX0_note rfl rfl)
theorem dX0_note_14 : decode cX0_note 14 = .ok (.iload_n 2, 1) := kD28 (kBe kE_cX0_note rfl rfl)
theorem dX0_note_15 : decode cX0_note 15 = .ok (.putfield 9, 3) := kD181 (kBe kE_cX0_note rfl rfl) (kBe kE_cX0_note rfl rfl) (kBe kE_cX0_note rfl rfl)
theorem dX0_note_18 : decode cX0_note 18 = .ok (.aload_n 0, 1) := kD42 (kBe kE_cX0_note rfl rfl)
theorem dX0_note_19 : decode cX0_note 19 = .ok (.iload_n 3, 1) := kD29 (kBe kE_cX0_note rfl rfl)
theorem dX0_note_20 : decode cX0_note 20 = .ok (.putfield 15, 3) := kD181 (kBe kE_cX0_note rfl rfl) (kBe kE_cX0_note rfl rfl) (kBe kE_cX0_note rfl rfl)
theorem dX0_note_23 : decode cX0_note 23 = .ok (.aload_n 0, 1) := kD42 (kBe kE_cX0_note rfl rfl)
theorem dX0_note_24 : decode cX0_note 24 = .ok (.iload 4, 2) := kD21 (kBe kE_cX0_note rfl rfl) (kBe kE_cX0_note rfl rfl)
theorem dX0_note_26 : decode cX0_note 26 = .ok (.putfield 18, 3) := kD181 (kBe kE_cX0_note rfl rfl) (kBe kE_cX0_note rfl rfl) (kBe kE_cX0_note rfl rfl)
theorem dX0_note_29 : decode cX0_note 29 = .ok (.return_, 1) := kD177 (kBe kE_cX0_note rfl rfl)
theorem kE_cX1_init : kDc cX1_init 14026170985059536552469691676458 13 := by unfold kDc; decide +kernel
theorem dX1_init_0 : decode cX1_init 0 = .ok (.aload_n 0, 1) := kD42 (kBe kE_cX1_init rfl rfl)
theorem dX1_init_1 : decode cX1_init 1 = .ok (.invokespecial 3, 3) := kD183 (kBe kE_cX1_init rfl rfl) (kBe kE_cX1_init rfl rfl) (kBe kE_cX1_init rfl rfl)
theorem dX1_init_4 : decode cX1_init 4 = .ok (.aload_n 0, 1) := kD42 (kBe kE_cX1_init rfl rfl)
theorem dX1_init_5 : decode cX1_init 5 = .ok (.bipush 32, 2) := kD16 (kBe kE_cX1_init rfl rfl) (kBe kE_cX1_init rfl rfl) kS8_32
theorem dX1_init_7 : decode cX1_init 7 = .ok (.newarray .int, 2) := kD188_10 (kBe kE_cX1_init rfl rfl) (kBe kE_cX1_init rfl rfl)
theorem dX1_init_9 : decode cX1_init 9 = .ok (.putfield 9, 3) := kD181 (kBe kE_cX1_init rfl rfl) (kBe kE_cX1_init rfl rfl) (kBe kE_cX1_init rfl rfl)
theorem dX1_init_12 : decode cX1_init 12 = .ok (.return_, 1) := kD177 (kBe kE_cX1_init rfl rfl)
theorem kE_cX1_append : kDc cX1_append 9572636646899477439535251779622824025716911890161284547626667227351007554393162283868405521601633440444265947075481265964960773123225062992628498750918566915970606512171680130353523155608120497976290142516096109253421555293351673174905564350968093368279834036950788558272793562423259562528086185784455594604486757176474537949041885485851 140 := by unfold kDc; decide +kernel
theorem dX1_append_0 : decode cX1_append 0 = .ok (.iload_n 1, 1) := kD27 (kBe kE_cX1_append rfl rfl)
theorem dX1_append_1 : decode cX1_append 1 = .ok (.ifCond .lt 47, 3) := kD155 (kBe kE_cX1_append rfl rfl) (kBe kE_cX1_append rfl rfl) (kBe kE_cX1_append rfl rfl) kS16_0_47
theorem dX1_append_4 : decode cX1_append 4 = .ok (.iload_n 1, 1) := kD27 (kBe kE_cX1_append rfl rfl)
theorem dX1_append_5 : decode cX1_append 5 = .ok (.bipush 7, 2) := kD16 (kBe kE_cX1_append rfl rfl) (kBe kE_cX1_append rfl rfl) kS8_7
theorem dX1_append_7 : decode cX1_append 7 = .ok (.if_icmp .gt 41, 3) := kD163 (kBe kE_cX1_append rfl rfl) (kBe kE_cX1_append rfl rfl) (kBe kE_cX1_append rfl rfl) kS16_0_41
theorem dX1_append_10 : decode cX1_append 10 = .ok (.iload_n 2, 1) := kD28 (kBe kE_cX1_append rfl rfl)
theorem dX1_append_11 : decode cX1_append 11 = .ok (.ifCond .lt 37, 3) := kD155 (kBe kE_cX1_append rfl rfl) (kBe kE_cX1_append rfl rfl) (kBe kE_cX1_append rfl rfl) kS16_0_37
theorem dX1_append_14 : decode cX1_append 14 = .ok (.iload_n 2, 1) := kD28 (kBe kE_cX1_append rfl rfl)
theorem dX1_append_15 : decode cX1_append 15 = .ok (.bipush 7, 2) := kD16 (kBe kE_cX1_append rfl rfl) (kBe kE_cX1_append rfl rfl) kS8_7
theorem dX1_append_17 : decode cX1_append 17 = .ok (.if_icmp .gt 31, 3) := kD163 (kBe kE_cX1_append rfl rfl) (kBe kE_cX1_append rfl rfl) (kBe kE_cX1_append rfl rfl) kS16_0_31
theorem dX1_append_20 : decode cX1_append 20 = .ok (.iload_n 3, 1) := kD29 (kBe kE_cX1_append rfl rfl)
theorem dX1_append_21 : decode cX1_append 21 = .ok (.ifCond .lt 27, 3) := kD155 (kBe kE_cX1_append rfl rfl) (kBe kE_cX1_append rfl rfl) (kBe kE_cX1_append rfl rfl) kS16_0_27
theorem dX1_append_24 : decode cX1_append 24 = .ok (.iload_n 3, 1) := kD29 (kBe kE_cX1_append rfl rfl)
theorem dX1_append_25 : decode cX1_append 25 = .ok (.bipush 7, 2) := kD16 (kBe kE_cX1_append rfl rfl) (kBe kE_cX1_append rfl rfl) kS8_7
theorem dX1_append_27 : decode cX1_append 27 = .ok (.if_icmp .gt 21, 3) := kD163 (kBe kE_cX1_append rfl rfl) (kBe kE_cX1_append rfl rfl) (kBe kE_cX1_append rfl rfl) kS16_0_21
theorem dX1_append_30 : decode cX1_append 30 = .ok (.iload_n 2, 1) := kD28 (kBe kE_cX1_append rfl rfl)
theorem dX1_append_31 : decode cX1_append 31 = .ok (.iload_n 3, 1) := kD29 (kBe kE_cX1_append rfl rfl)
theorem dX1_append_32 : decode cX1_append 32 = .ok (.if_icmp .eq 16, 3) := kD159 (kBe kE_cX1_append rfl rfl) (kBe kE_cX1_append rfl rfl) (kBe kE_cX1_append rfl rfl) kS16_0_16
theorem dX1_append_35 : decode cX1_append 35 = .ok (.iload 4, 2) := kD21 (kBe kE_cX1_append rfl rfl) (kBe kE_cX1_append rfl rfl)
theorem dX1_append_37 : decode cX1_append 37 = .ok (.iconst 1, 1) := kD4 (kBe kE_cX1_append rfl rfl)
theorem dX1_append_38 : decode cX1_append 38 = .ok (.if_icmp .lt 10, 3) := kD161 (kBe kE_cX1_append rfl rfl) (kBe kE_cX1_append rfl rfl) (kBe kE_cX1_append rfl rfl) kS16_0_10
theorem dX1_append_41 : decode cX1_append 41 = .ok (.iload 4, 2) := kD21 (kBe kE_cX1_append rfl rfl) (kBe kE_cX1_append rfl rfl)
theorem dX1_append_43 : decode cX1_append 43 = .ok (.bipush 9, 2) := kD16 (kBe kE_cX1_append rfl rfl) (kBe kE_cX1_append rfl rfl) kS8_9
theorem dX1_append_45 : decode cX1_append 45 = .ok (.if_icmp .le 6, 3) := kD164 (kBe kE_cX1_append rfl rfl) (kBe kE_cX1_append rfl rfl) (kBe kE_cX1_append rfl rfl) kS16_0_6
theorem dX1_append_48 : decode cX1_append 48 = .ok (.bipush (-2), 2) := kD16 (kBe kE_cX1_append rfl rfl) (kBe kE_cX1_append rfl rfl) kS8_254
theorem dX1_append_50 : decode cX1_append 50 = .ok (.ireturn, 1) := kD172 (kBe kE_cX1_append rfl rfl)
theorem dX1_append_51 : decode cX1_append 51 = .ok (.aload_n 0, 1) := kD42 (kBe kE_cX1_append rfl rfl)
theorem dX1_append_52 : decode cX1_append 52 = .ok (.getfield 15, 3) := kD180 (kBe kE_cX1_append rfl rfl) (kBe kE_cX1_append rfl rfl) (kBe kE_cX1_append rfl rfl)
theorem dX1_append_55 : decode cX1_append 55 = .ok (.ifCond .lt 12, 3) := kD155 (kBe kE_cX1_append rfl rfl) (kBe kE_cX1_append rfl rfl) (kBe kE_cX1_append rfl rfl) kS16_0_12
theorem dX1_append_58 : decode cX1_append 58 = .ok (.aload_n 0, 1) := kD42 (kBe kE_cX1_append rfl rfl)
theorem dX1_append_59 : decode cX1_append 59 = .ok (.getfield 15, 3) := kD180 (kBe kE_cX1_append rfl rfl) (kBe kE_cX1_append rfl rfl) (kBe kE_cX1_append rfl rfl)
theorem dX1_append_62 : decode cX1_append 62 = .ok (.bipush 8, 2) := kD16 (kBe kE_cX1_append rfl rfl) (kBe kE_cX1_append rfl rfl) kS8_8
theorem dX1_append_64 : decode cX1_append 64 = .ok (.if_icmp .lt 6, 3) := kD161 (kBe kE_cX1_append rfl rfl) (kBe kE_cX1_append rfl rfl) (kBe kE_cX1_append rfl rfl) kS16_0_6
theorem dX1_append_67 : decode cX1_append 67 = .ok (.bipush (-4), 2) := kD16 (kBe kE_cX1_append rfl rfl) (kBe kE_cX1_append rfl rfl) kS8_252
theorem dX1_append_69 : decode cX1_append 69 = .ok (.ireturn, 1) := kD172 (kBe kE_cX1_append rfl rfl)
theorem dX1_append_70 : decode cX1_append 70 = .ok (.aload_n 0, 1) := kD42 (kBe kE_cX1_append rfl rfl)
theorem dX1_append_71 : decode cX1_append 71 = .ok (.getfield 9, 3) := kD180 (kBe kE_cX1_append rfl rfl) (kBe kE_cX1_append rfl rfl) (kBe kE_cX1_append rfl rfl)
theorem dX1_append_74 : decode cX1_append 74 = .ok (.iconst 4, 1) := kD7 (kBe kE_cX1_append rfl rfl)
theorem dX1_append_75 : decode cX1_append 75 = .ok (.aload_n 0, 1) := kD42 (kBe kE_cX1_append rfl rfl)
theorem dX1_append_76 : decode cX1_append 76 = .ok (.getfield 15, 3) := kD180 (kBe kE_cX1_append rfl rfl) (kBe kE_cX1_append rfl rfl) (kBe kE_cX1_append rfl rfl)
theorem dX1_append_79 : decode cX1_append 79 = .ok (.imul, 1) := kD104 (kBe kE_cX1_append rfl rfl)
theorem dX1_append_80 : decode cX1_append 80 = .ok (.iload_n 1, 1) := kD27 (kBe kE_cX1_append rfl rfl)
theorem dX1_append_81 : decode cX1_append 81 = .ok (.iastore, 1) := kD79 (kBe kE_cX1_append rfl rfl)
theorem dX1_append_82 : decode cX1_append 82 = .ok (.aload_n 0, 1) := kD42 (kBe kE_cX1_append rfl rfl)
theorem dX1_append_83 : decode cX1_append 83 = .ok (.getfield 9, 3) := kD180 (kBe kE_cX1_append rfl rfl) (kBe kE_cX1_append rfl rfl) (kBe kE_cX1_append rfl rfl)
theorem dX1_append_86 : decode cX1_append 86 = .ok (.iconst 4, 1) := kD7 (kBe kE_cX1_append rfl rfl)
theorem dX1_append_87 : decode cX1_append 87 = .ok (.aload_n 0, 1) := kD42 (kBe kE_cX1_append rfl rfl)
theorem dX1_append_88 : decode cX1_append 88 = .ok (.getfield 15, 3) := kD180 (kBe kE_cX1_append rfl rfl) (kBe kE_cX1_append rfl rfl) (kBe kE_cX1_append rfl rfl)
theorem dX1_append_91 : decode cX1_append 91 = .ok (.imul, 1) := kD104 (kBe kE_cX1_append rfl rfl)
theorem dX1_append_92 : decode cX1_append 92 = .ok (.iconst 1, 1) := kD4 (kBe kE_cX1_append rfl rfl)
theorem dX1_append_93 : decode cX1_append 93 = .ok (.iadd, 1) := kD96 (kBe kE_cX1_append rfl rfl)
theorem dX1_append_94 : decode cX1_append 94 = .ok (.iload_n 2, 1) := kD28 (kBe kE_cX1_append rfl rfl)
theorem dX1_append_95 : decode cX1_append 95 = .ok (.iastore, 1) := kD79 (kBe kE_cX1_append rfl rfl)
theorem dX1_append_96 : decode cX1_append 96 = .ok (.aload_n 0, 1) := kD42 (kBe kE_cX1_append rfl rfl)
theorem dX1_append_97 : decode cX1_append 97 = .ok (.getfield 9, 3) := kD180 (kBe kE_cX1_append rfl rfl) (kBe kE_cX1_append rfl rfl) (kBe kE_cX1_append rfl rfl)
theorem dX1_append_100 : decode cX1_append 100 = .ok (.iconst 4, 1) := kD7 (kBe kE_cX1_append rfl rfl)
theorem dX1_append_101 : decode cX1_append 101 = .ok (.aload_n 0, 1) := kD42 (kBe kE_cX1_append rfl rfl)
theorem dX1_append_102 : decode cX1_append 102 = .ok (.getfield 15, 3) := kD180 (kBe kE_cX1_append rfl rfl) (kBe kE_cX1_append rfl rfl) (kBe kE_cX1_append rfl rfl)
theorem dX1_append_105 : decode cX1_append 105 = .ok (.imul, 1) := kD104 (kBe kE_cX1_append rfl rfl)
theorem dX1_append_106 : decode cX1_append 106 = .ok (.iconst 2, 1) := kD5 (kBe kE_cX1_append rfl rfl)
theorem dX1_append_107 : decode cX1_append 107 = .ok (.iadd, 1) := kD96 (kBe kE_cX1_append rfl rfl)
theorem dX1_append_108 : decode cX1_append 108 = .ok (.iload_n 3, 1) := kD29 (kBe kE_cX1_append rfl rfl)
theorem dX1_append_109 : decode cX1_append 109 = .ok (.iastore, 1) := kD79 (kBe kE_cX1_append rfl rfl)
theorem dX1_append_110 : decode cX1_append 110 = .ok (.aload_n 0, 1) := kD42 (kBe kE_cX1_append rfl rfl)
theorem dX1_append_111 : decode cX1_append 111 = .ok (.getfield 9, 3) := kD180 (kBe kE_cX1_append rfl rfl) (kBe kE_cX1_append rfl rfl) (kBe kE_cX1_append rfl rfl)
theorem dX1_append_114 : decode cX1_append 114 = .ok (.iconst 4, 1) := kD7 (kBe kE_cX1_append rfl rfl)
theorem dX1_append_115 : decode cX1_append 115 = .ok (.aload_n 0, 1) := kD42 (kBe kE_cX1_append rfl rfl)
theorem dX1_append_116 : decode cX1_append 116 = .ok (.getfield 15, 3) := kD180 (kBe kE_cX1_append rfl rfl) (kBe kE_cX1_append rfl rfl) (kBe kE_cX1_append rfl rfl)
theorem dX1_append_119 : decode cX1_append 119 = .ok (.imul, 1) := kD104 (kBe kE_cX1_append rfl rfl)
theorem dX1_append_120 : decode cX1_append 120 = .ok (.iconst 3, 1) := kD6 (kBe kE_cX1_append rfl rfl)
theorem dX1_append_121 : decode cX1_append 121 = .ok (.iadd, 1) := kD96 (kBe kE_cX1_append rfl rfl)
theorem dX1_append_122 : decode cX1_append 122 = .ok (.iload 4, 2) := kD21 (kBe kE_cX1_append rfl rfl) (kBe kE_cX1_append rfl rfl)
theorem dX1_append_124 : decode cX1_append 124 = .ok (.iastore, 1) := kD79 (kBe kE_cX1_append rfl rfl)
theorem dX1_append_125 : decode cX1_append 125 = .ok (.aload_n 0, 1) := kD42 (kBe kE_cX1_append rfl rfl)
theorem dX1_append_126 : decode cX1_append 126 = .ok (.dup, 1) := kD89 (kBe kE_cX1_append rfl rfl)
theorem dX1_append_127 : decode cX1_append 127 = .ok (.getfield 15, 3) := kD180 (kBe kE_cX1_append rfl rfl) (kBe kE_cX1_append rfl rfl) (kBe kE_cX1_append rfl rfl)
theorem dX1_append_130 : decode cX1_append 130 = .ok (.iconst 1, 1) := kD4 (kBe kE_cX1_append rfl rfl)
theorem dX1_append_131 : decode cX1_append 131 = .ok (.iadd, 1) := kD96 (kBe kE_cX1_append rfl rfl)
theorem dX1_append_132 : decode cX1_append 132 = .ok (.putfield 15, 3) := kD181 (kBe kE_cX1_append rfl rfl) (kBe kE_cX1_append rfl rfl) (kBe kE_cX1_append rfl rfl)
theorem dX1_append_135 : decode cX1_append 135 = .ok (.aload_n 0, 1) := kD42 (kBe kE_cX1_append rfl rfl)
theorem dX1_append_136 : decode cX1_append 136 = .ok (.getfield 15, 3) := kD180 (kBe kE_cX1_append rfl rfl) (kBe kE_cX1_append rfl rfl) (kBe kE_cX1_append rfl rfl)
theorem dX1_append_139 : decode cX1_append 139 = .ok (.ireturn, 1) := kD172 (kBe kE_cX1_append rfl rfl)
theorem kE_cX1_has : kDc cX1_has 14984339347662989861893447343148980206869275 18 := by unfold kDc; decide +kernel
theorem dX1_has_0 : decode cX1_has 0 = .ok (.iload_n 1, 1) := kD27 (kBe kE_cX1_has rfl rfl)
theorem dX1_has_1 : decode cX1_has 1 = .ok (.ifCond .lt 15, 3) := kD155 (kBe kE_cX1_has rfl rfl) (kBe kE_cX1_has rfl rfl) (kBe kE_cX1_has rfl rfl) kS16_0_15
theorem dX1_has_4 : decode cX1_has 4 = .ok (.iload_n 1, 1) := kD27 (kBe kE_cX1_has rfl rfl)
theorem dX1_has_5 : decode cX1_has 5 = .ok (.aload_n 0, 1) := kD42 (kBe kE_cX1_has rfl rfl)
theorem dX1_has_6 : decode cX1_has 6 = .ok (.getfield 15, 3) := kD180 (kBe kE_cX1_has rfl rfl) (kBe kE_cX1_has rfl rfl) (kBe kE_cX1_has rfl rfl)
theorem dX1_has_9 : decode cX1_has 9 = .ok (.if_icmp .ge 7, 3) := kD162 (kBe kE_cX1_has rfl rfl) (kBe kE_cX1_has rfl rfl) (kBe kE_cX1_has rfl rfl) kS16_0_7
theorem dX1_has_12 : decode cX1_has 12 = .ok (.iconst 1, 1) := kD4 (kBe kE_cX1_has rfl rfl)
theorem dX1_has_13 : decode cX1_has 13 = .ok (.goto 4, 3) := kD167 (kBe kE_cX1_has rfl rfl) (kBe kE_cX1_has rfl rfl) (kBe kE_cX1_has rfl rfl) kS16_0_4
theorem dX1_has_16 : decode cX1_has 16 = .ok (.iconst 0, 1) := kD3 (kBe kE_cX1_has rfl rfl)
theorem dX1_has_17 : decode cX1_has 17 = .ok (.ireturn, 1) := kD172 (kBe kE_cX1_has rfl rfl)
theorem kE_cX1_passengerOf : kDc cX1_passengerOf 48434589768817450 7 := by unfold kDc; decide +kernel
theorem dX1_passengerOf_0 : decode cX1_passengerOf 0 = .ok (.aload_n 0, 1) := kD42 (kBe kE_cX1_passengerOf rfl rfl)
theorem dX1_passengerOf_1 : decode cX1_passengerOf 1 = .ok (.iload_n 1, 1) := kD27 (kBe kE_cX1_passengerOf rfl rfl)
theorem dX1_passengerOf_2 : decode cX1_passengerOf 2 = .ok (.iconst 0, 1) := kD3 (kBe kE_cX1_passengerOf rfl rfl)
theorem dX1_passengerOf_3 : decode cX1_passengerOf 3 = .ok (.invokevirtual 19, 3) := kD182 (kBe kE_cX1_passengerOf rfl rfl) (kBe kE_cX1_passengerOf rfl rfl) (kBe kE_cX1_passengerOf rfl rfl)
theorem dX1_passengerOf_6 : decode cX1_passengerOf 6 = .ok (.ireturn, 1) := kD172 (kBe kE_cX1_passengerOf rfl rfl)
theorem kE_cX1_leftOf : kDc cX1_leftOf 48434589768882986 7 := by unfold kDc; decide +kernel
theorem dX1_leftOf_0 : decode cX1_leftOf 0 = .ok (.aload_n 0, 1) := kD42 (kBe kE_cX1_leftOf rfl rfl)
theorem dX1_leftOf_1 : decode cX1_leftOf 1 = .ok (.iload_n 1, 1) := kD27 (kBe kE_cX1_leftOf rfl rfl)
theorem dX1_leftOf_2 : decode cX1_leftOf 2 = .ok (.iconst 1, 1) := kD4 (kBe kE_cX1_leftOf rfl rfl)
theorem dX1_leftOf_3 : decode cX1_leftOf 3 = .ok (.invokevirtual 19, 3) := kD182 (kBe kE_cX1_leftOf rfl rfl) (kBe kE_cX1_leftOf rfl rfl) (kBe kE_cX1_leftOf rfl rfl)
theorem dX1_leftOf_6 : decode cX1_leftOf 6 = .ok (.ireturn, 1) := kD172 (kBe kE_cX1_leftOf rfl rfl)
theorem kE_cX1_rightOf : kDc cX1_rightOf 48434589768948522 7 := by unfold kDc; decide +kernel
theorem dX1_rightOf_0 : decode cX1_rightOf 0 = .ok (.aload_n 0, 1) := kD42 (kBe kE_cX1_rightOf rfl rfl)
theorem dX1_rightOf_1 : decode cX1_rightOf 1 = .ok (.iload_n 1, 1) := kD27 (kBe kE_cX1_rightOf rfl rfl)
theorem dX1_rightOf_2 : decode cX1_rightOf 2 = .ok (.iconst 2, 1) := kD5 (kBe kE_cX1_rightOf rfl rfl)
theorem dX1_rightOf_3 : decode cX1_rightOf 3 = .ok (.invokevirtual 19, 3) := kD182 (kBe kE_cX1_rightOf rfl rfl) (kBe kE_cX1_rightOf rfl rfl) (kBe kE_cX1_rightOf rfl rfl)
theorem dX1_rightOf_6 : decode cX1_rightOf 6 = .ok (.ireturn, 1) := kD172 (kBe kE_cX1_rightOf rfl rfl)
theorem kE_cX1_heightOf : kDc cX1_heightOf 48434589769014058 7 := by unfold kDc; decide +kernel
theorem dX1_heightOf_0 : decode cX1_heightOf 0 = .ok (.aload_n 0, 1) := kD42 (kBe kE_cX1_heightOf rfl rfl)
theorem dX1_heightOf_1 : decode cX1_heightOf 1 = .ok (.iload_n 1, 1) := kD27 (kBe kE_cX1_heightOf rfl rfl)
theorem dX1_heightOf_2 : decode cX1_heightOf 2 = .ok (.iconst 3, 1) := kD6 (kBe kE_cX1_heightOf rfl rfl)
theorem dX1_heightOf_3 : decode cX1_heightOf 3 = .ok (.invokevirtual 19, 3) := kD182 (kBe kE_cX1_heightOf rfl rfl) (kBe kE_cX1_heightOf rfl rfl) (kBe kE_cX1_heightOf rfl rfl)
theorem dX1_heightOf_6 : decode cX1_heightOf 6 = .ok (.ireturn, 1) := kD172 (kBe kE_cX1_heightOf rfl rfl)
theorem kE_cX1_item : kDc cX1_item 334154345210263476730174807912697781305472467433519998764052533954365495163340929243946 36 := by unfold kDc; decide +kernel
theorem dX1_item_0 : decode cX1_item 0 = .ok (.aload_n 0, 1) := kD42 (kBe kE_cX1_item rfl rfl)
theorem dX1_item_1 : decode cX1_item 1 = .ok (.iload_n 1, 1) := kD27 (kBe kE_cX1_item rfl rfl)
theorem dX1_item_2 : decode cX1_item 2 = .ok (.invokevirtual 23, 3) := kD182 (kBe kE_cX1_item rfl rfl) (kBe kE_cX1_item rfl rfl) (kBe kE_cX1_item rfl rfl)
theorem dX1_item_5 : decode cX1_item 5 = .ok (.ifCond .eq 29, 3) := kD153 (kBe kE_cX1_item rfl rfl) (kBe kE_cX1_item rfl rfl) (kBe kE_cX1_item rfl rfl) kS16_0_29
theorem dX1_item_8 : decode cX1_item 8 = .ok (.iconst 4, 1) := kD7 (kBe kE_cX1_item rfl rfl)
theorem dX1_item_9 : decode cX1_item 9 = .ok (.iload_n 1, 1) := kD27 (kBe kE_cX1_item rfl rfl)
theorem dX1_item_10 : decode cX1_item 10 = .ok (.imul, 1) := kD104 (kBe kE_cX1_item rfl rfl)
theorem dX1_item_11 : decode cX1_item 11 = .ok (.iload_n 2, 1) := kD28 (kBe kE_cX1_item rfl rfl)
theorem dX1_item_12 : decode cX1_item 12 = .ok (.iadd, 1) := kD96 (kBe kE_cX1_item rfl rfl)
theorem dX1_item_13 : decode cX1_item 13 = .ok (.aload_n 0, 1) := kD42 (kBe kE_cX1_item rfl rfl)
theorem dX1_item_14 : decode cX1_item 14 = .ok (.getfield 9, 3) := kD180 (kBe kE_cX1_item rfl rfl) (kBe kE_cX1_item rfl rfl) (kBe kE_cX1_item rfl rfl)
theorem dX1_item_17 : decode cX1_item 17 = .ok (.arraylength, 1) := kD190 (kBe kE_cX1_item rfl rfl)
theorem dX1_item_18 : decode cX1_item 18 = .ok (.if_icmp .ge 16, 3) := kD162 (kBe kE_cX1_item rfl rfl) (kBe kE_cX1_item rfl rfl) (kBe kE_cX1_item rfl rfl) kS16_0_16
theorem dX1_item_21 : decode cX1_item 21 = .ok (.aload_n 0, 1) := kD42 (kBe kE_cX1_item rfl rfl)
theorem dX1_item_22 : decode cX1_item 22 = .ok (.getfield 9, 3) := kD180 (kBe kE_cX1_item rfl rfl) (kBe kE_cX1_item rfl rfl) (kBe kE_cX1_item rfl rfl)
theorem dX1_item_25 : decode cX1_item 25 = .ok (.iconst 4, 1) := kD7 (kBe kE_cX1_item rfl rfl)
theorem dX1_item_26 : decode cX1_item 26 = .ok (.iload_n 1, 1) := kD27 (kBe kE_cX1_item rfl rfl)
theorem dX1_item_27 : decode cX1_item 27 = .ok (.imul, 1) := kD104 (kBe kE_cX1_item rfl rfl)
theorem dX1_item_28 : decode cX1_item 28 = .ok (.iload_n 2, 1) := kD28 (kBe kE_cX1_item rfl rfl)
theorem dX1_item_29 : decode cX1_item 29 = .ok (.iadd, 1) := kD96 (kBe kE_cX1_item rfl rfl)
theorem dX1_item_30 : decode cX1_item 30 = .ok (.iaload, 1) := kD46 (kBe kE_cX1_item rfl rfl)
theorem dX1_item_31 : decode cX1_item 31 = .ok (.goto 4, 3) := kD167 (kBe kE_cX1_item rfl rfl) (kBe kE_cX1_item rfl rfl) (kBe kE_cX1_item rfl rfl) kS16_0_4
theorem dX1_item_34 : decode cX1_item 34 = .ok (.iconst (-1), 1) := kD2 (kBe kE_cX1_item rfl rfl)
theorem dX1_item_35 : decode cX1_item 35 = .ok (.ireturn, 1) := kD172 (kBe kE_cX1_item rfl rfl)
theorem kE_cX2_init : kDc cX2_init 49824372484411434 7 := by unfold kDc; decide +kernel
theorem dX2_init_0 : decode cX2_init 0 = .ok (.aload_n 0, 1) := kD42 (kBe kE_cX2_init rfl rfl)
theorem dX2_init_1 : decode cX2_init 1 = .ok (.bipush 23, 2) := kD16 (kBe kE_cX2_init rfl rfl) (kBe kE_cX2_init rfl rfl) kS8_23
theorem dX2_init_3 : decode cX2_init 3 = .ok (.invokespecial 3, 3) := kD183 (kBe kE_cX2_init rfl rfl) (kBe kE_cX2_init rfl rfl) (kBe kE_cX2_init rfl rfl)
theorem dX2_init_6 : decode cX2_init 6 = .ok (.return_, 1) := kD177 (kBe kE_cX2_init rfl rfl)
theorem kE_cX2_worth : kDc cX2_worth 200902581489928033426961639833992426319948729473013734967415343313424068163492961085310036266911281568229814730997538621788620495772931319009153698862556416067750334992887952521945085618176417334811 82 := by unfold kDc; decide +kernel
theorem dX2_worth_0 : decode cX2_worth 0 = .ok (.iload_n 1, 1) := kD27 (kBe kE_cX2_worth rfl rfl)
theorem dX2_worth_1 : decode cX2_worth 1 = .ok (.iconst 3, 1) := kD6 (kBe kE_cX2_worth rfl rfl)
theorem dX2_worth_2 : decode cX2_worth 2 = .ok (.irem, 1) := kD112 (kBe kE_cX2_worth rfl rfl)
theorem dX2_worth_28 : decode cX2_worth 28 = .ok (.iload_n 2, 1) := kD28 (kBe kE_cX2_worth rfl rfl)
theorem dX2_worth_29 : decode cX2_worth 29 = .ok (.bipush 49, 2) := kD16 (kBe kE_cX2_worth rfl rfl) (kBe kE_cX2_worth rfl rfl) kS8_49
theorem dX2_worth_31 : decode cX2_worth 31 = .ok (.if_icmp .lt 16, 3) := kD161 (kBe kE_cX2_worth rfl rfl) (kBe kE_cX2_worth rfl rfl) (kBe kE_cX2_worth rfl rfl) kS16_0_16
theorem dX2_worth_34 : decode cX2_worth 34 = .ok (.iload_n 2, 1) := kD28 (kBe kE_cX2_worth rfl rfl)
theorem dX2_worth_35 : decode cX2_worth 35 = .ok (.bipush 57, 2) := kD16 (kBe kE_cX2_worth rfl rfl) (kBe kE_cX2_worth rfl rfl) kS8_57
theorem dX2_worth_37 : decode cX2_worth 37 = .ok (.if_icmp .gt 10, 3) := kD163 (kBe kE_cX2_worth rfl rfl) (kBe kE_cX2_worth rfl rfl) (kBe kE_cX2_worth rfl rfl) kS16_0_10
theorem dX2_worth_40 : decode cX2_worth 40 = .ok (.iload_n 2, 1) := kD28 (kBe kE_cX2_worth rfl rfl)
theorem dX2_worth_41 : decode cX2_worth 41 = .ok (.bipush 48, 2) := kD16 (kBe kE_cX2_worth rfl rfl) (kBe kE_cX2_worth rfl rfl) kS8_48
theorem dX2_worth_43 : decode cX2_worth 43 = .ok (.isub, 1) := kD100 (kBe kE_cX2_worth rfl rfl)
theorem dX2_worth_44 : decode cX2_worth 44 = .ok (.goto 4, 3) := kD167 (kBe kE_cX2_worth rfl rfl) (kBe kE_cX2_worth rfl rfl) (kBe kE_cX2_worth rfl rfl) kS16_0_4
theorem dX2_worth_47 : decode cX2_worth 47 = .ok (.iconst (-1), 1) := kD2 (kBe kE_cX2_worth rfl rfl)
theorem dX2_worth_48 : decode cX2_worth 48 = .ok (.ireturn, 1) := kD172 (kBe kE_cX2_worth rfl rfl)
theorem dX2_worth_49 : decode cX2_worth 49 = .ok (.iload_n 2, 1) := kD28 (kBe kE_cX2_worth rfl rfl)
theorem dX2_worth_50 : decode cX2_worth 50 = .ok (.bipush 48, 2) := kD16 (kBe kE_cX2_worth rfl rfl) (kBe kE_cX2_worth rfl rfl) kS8_48
theorem dX2_worth_52 : decode cX2_worth 52 = .ok (.if_icmp .lt 16, 3) := kD161 (kBe kE_cX2_worth rfl rfl) (kBe kE_cX2_worth rfl rfl) (kBe kE_cX2_worth rfl rfl) kS16_0_16
theorem dX2_worth_55 : decode cX2_worth 55 = .ok (.iload_n 2, 1) := kD28 (kBe kE_cX2_worth rfl rfl)
theorem dX2_worth_56 : decode cX2_worth 56 = .ok (.bipush 57, 2) := kD16 (kBe kE_cX2_worth rfl rfl) (kBe kE_cX2_worth rfl rfl) kS8_57
theorem dX2_worth_58 : decode cX2_worth 58 = .ok (.if_icmp .gt 10, 3) := kD163 (kBe kE_cX2_worth rfl rfl) (kBe kE_cX2_worth rfl rfl) (kBe kE_cX2_worth rfl rfl) kS16_0_10
theorem dX2_worth_61 : decode cX2_worth 61 = .ok (.iload_n 2, 1) := kD28 (kBe kE_cX2_worth rfl rfl)
theorem dX2_worth_62 : decode cX2_worth 62 = .ok (.bipush 48, 2) := kD16 (kBe kE_cX2_worth rfl rfl) (kBe kE_cX2_worth rfl rfl) kS8_48
theorem dX2_worth_64 : decode cX2_worth 64 = .ok (.isub, 1) := kD100 (kBe kE_cX2_worth rfl rfl)
theorem dX2_worth_65 : decode cX2_worth 65 = .ok (.goto 4, 3) := kD167 (kBe kE_cX2_worth rfl rfl) (kBe kE_cX2_worth rfl rfl) (kBe kE_cX2_worth rfl rfl) kS16_0_4
theorem dX2_worth_68 : decode cX2_worth 68 = .ok (.iconst (-1), 1) := kD2 (kBe kE_cX2_worth rfl rfl)
theorem dX2_worth_69 : decode cX2_worth 69 = .ok (.ireturn, 1) := kD172 (kBe kE_cX2_worth rfl rfl)
theorem dX2_worth_70 : decode cX2_worth 70 = .ok (.iload_n 2, 1) := kD28 (kBe kE_cX2_worth rfl rfl)
theorem dX2_worth_71 : decode cX2_worth 71 = .ok (.bipush 59, 2) := kD16 (kBe kE_cX2_worth rfl rfl) (kBe kE_cX2_worth rfl rfl) kS8_59
theorem dX2_worth_73 : decode cX2_worth 73 = .ok (.if_icmp .ne 7, 3) := kD160 (kBe kE_cX2_worth rfl rfl) (kBe kE_cX2_worth rfl rfl) (kBe kE_cX2_worth rfl rfl) kS16_0_7
theorem dX2_worth_76 : decode cX2_worth 76 = .ok (.iconst 0, 1) := kD3 (kBe kE_cX2_worth rfl rfl)
theorem dX2_worth_77 : decode cX2_worth 77 = .ok (.goto 4, 3) := kD167 (kBe kE_cX2_worth rfl rfl) (kBe kE_cX2_worth rfl rfl) (kBe kE_cX2_worth rfl rfl) kS16_0_4
theorem dX2_worth_80 : decode cX2_worth 80 = .ok (.iconst (-1), 1) := kD2 (kBe kE_cX2_worth rfl rfl)
theorem dX2_worth_81 : decode cX2_worth 81 = .ok (.ireturn, 1) := kD172 (kBe kE_cX2_worth rfl rfl)
theorem kE_cX2_thingsIn : kDc cX2_thingsIn 16475081202886802717614674619693189609600768180498766363 23 := by unfold kDc; decide +kernel
theorem dX2_thingsIn_0 : decode cX2_thingsIn 0 = .ok (.iload_n 1, 1) := kD27 (kBe kE_cX2_thingsIn rfl rfl)
theorem dX2_thingsIn_1 : decode cX2_thingsIn 1 = .ok (.ifCond .ne 5, 3) := kD154 (kBe kE_cX2_thingsIn rfl rfl) (kBe kE_cX2_thingsIn rfl rfl) (kBe kE_cX2_thingsIn rfl rfl) kS16_0_5
theorem dX2_thingsIn_4 : decode cX2_thingsIn 4 = .ok (.iconst 0, 1) := kD3 (kBe kE_cX2_thingsIn rfl rfl)
theorem dX2_thingsIn_5 : decode cX2_thingsIn 5 = .ok (.ireturn, 1) := kD172 (kBe kE_cX2_thingsIn rfl rfl)
theorem dX2_thingsIn_6 : decode cX2_thingsIn 6 = .ok (.iload_n 1, 1) := kD27 (kBe kE_cX2_thingsIn rfl rfl)
theorem dX2_thingsIn_7 : decode cX2_thingsIn 7 = .ok (.iconst 3, 1) := kD6 (kBe kE_cX2_thingsIn rfl rfl)
theorem dX2_thingsIn_8 : decode cX2_thingsIn 8 = .ok (.irem, 1) := kD112 (kBe kE_cX2_thingsIn rfl rfl)
theorem dX2_thingsIn_9 : decode cX2_thingsIn 9 = .ok (.iconst 2, 1) := kD5 (kBe kE_cX2_thingsIn rfl rfl)
theorem dX2_thingsIn_10 : decode cX2_thingsIn 10 = .ok (.if_icmp .ne 11, 3) := kD160 (kBe kE_cX2_thingsIn rfl rfl) (kBe kE_cX2_thingsIn rfl rfl) (kBe kE_cX2_thingsIn rfl rfl) kS16_0_11
theorem dX2_thingsIn_13 : decode cX2_thingsIn 13 = .ok (.iload_n 1, 1) := kD27 (kBe kE_cX2_thingsIn rfl rfl)
theorem dX2_thingsIn_14 : decode cX2_thingsIn 14 = .ok (.iconst 1, 1) := kD4 (kBe kE_cX2_thingsIn rfl rfl)
theorem dX2_thingsIn_15 : decode cX2_thingsIn 15 = .ok (.iadd, 1) := kD96 (kBe kE_cX2_thingsIn rfl rfl)
theorem dX2_thingsIn_16 : decode cX2_thingsIn 16 = .ok (.iconst 3, 1) := kD6 (kBe kE_cX2_thingsIn rfl rfl)
theorem dX2_thingsIn_17 : decode cX2_thingsIn 17 = .ok (.idiv, 1) := kD108 (kBe kE_cX2_thingsIn rfl rfl)
theorem dX2_thingsIn_18 : decode cX2_thingsIn 18 = .ok (.goto 4, 3) := kD167 (kBe kE_cX2_thingsIn rfl rfl) (kBe kE_cX2_thingsIn rfl rfl) (kBe kE_cX2_thingsIn rfl rfl) kS16_0_4
theorem dX2_thingsIn_21 : decode cX2_thingsIn 21 = .ok (.iconst (-1), 1) := kD2 (kBe kE_cX2_thingsIn rfl rfl)
theorem dX2_thingsIn_22 : decode cX2_thingsIn 22 = .ok (.ireturn, 1) := kD172 (kBe kE_cX2_thingsIn rfl rfl)
theorem kE_cX2_told : kDc cX2_told 812413107084363246011946 10 := by unfold kDc; decide +kernel
theorem dX2_told_0 : decode cX2_told 0 = .ok (.aload_n 0, 1) := kD42 (kBe kE_cX2_told rfl rfl)
theorem dX2_told_1 : decode cX2_told 1 = .ok (.iconst 3, 1) := kD6 (kBe kE_cX2_told rfl rfl)
theorem dX2_told_2 : decode cX2_told 2 = .ok (.iload_n 1, 1) := kD27 (kBe kE_cX2_told rfl rfl)
theorem dX2_told_3 : decode cX2_told 3 = .ok (.imul, 1) := kD104 (kBe kE_cX2_told rfl rfl)
theorem dX2_told_4 : decode cX2_told 4 = .ok (.iload_n 2, 1) := kD28 (kBe kE_cX2_told rfl rfl)
theorem dX2_told_5 : decode cX2_told 5 = .ok (.iadd, 1) := kD96 (kBe kE_cX2_told rfl rfl)
theorem dX2_told_6 : decode cX2_told 6 = .ok (.invokevirtual 9, 3) := kD182 (kBe kE_cX2_told rfl rfl) (kBe kE_cX2_told rfl rfl) (kBe kE_cX2_told rfl rfl)
theorem dX2_told_9 : decode cX2_told 9 = .ok (.ireturn, 1) := kD172 (kBe kE_cX2_told rfl rfl)
theorem kE_cX3_init : kDc cX3_init 760226035498 5 := by unfold kDc; decide +kernel
theorem dX3_init_0 : decode cX3_init 0 = .ok (.aload_n 0, 1) := kD42 (kBe kE_cX3_init rfl rfl)
theorem dX3_init_1 : decode cX3_init 1 = .ok (.invokespecial 1, 3) := kD183 (kBe kE_cX3_init rfl rfl) (kBe kE_cX3_init rfl rfl) (kBe kE_cX3_init rfl rfl)
theorem dX3_init_4 : decode cX3_init 4 = .ok (.return_, 1) := kD177 (kBe kE_cX3_init rfl rfl)
theorem kE_cX3_setOut : kDc cX3_setOut 3591254369277090044335509713725994 14 := by unfold kDc; decide +kernel
theorem dX3_setOut_0 : decode cX3_setOut 0 = .ok (.aload_n 0, 1) := kD42 (kBe kE_cX3_setOut rfl rfl)
theorem dX3_setOut_1 : decode cX3_setOut 1 = .ok (.aload_n 0, 1) := kD42 (kBe kE_cX3_setOut rfl rfl)
theorem dX3_setOut_2 : decode cX3_setOut 2 = .ok (.getfield 7, 3) := kD180 (kBe kE_cX3_setOut rfl rfl) (kBe kE_cX3_setOut rfl rfl) (kBe kE_cX3_setOut rfl rfl)
theorem dX3_setOut_5 : decode cX3_setOut 5 = .ok (.putfield 13, 3) := kD181 (kBe kE_cX3_setOut rfl rfl) (kBe kE_cX3_setOut rfl rfl) (kBe kE_cX3_setOut rfl rfl)
theorem dX3_setOut_8 : decode cX3_setOut 8 = .ok (.aload_n 0, 1) := kD42 (kBe kE_cX3_setOut rfl rfl)
theorem dX3_setOut_9 : decode cX3_setOut 9 = .ok (.iconst 0, 1) := kD3 (kBe kE_cX3_setOut rfl rfl)
theorem dX3_setOut_10 : decode cX3_setOut 10 = .ok (.putfield 16, 3) := kD181 (kBe kE_cX3_setOut rfl rfl) (kBe kE_cX3_setOut rfl rfl) (kBe kE_cX3_setOut rfl rfl)
theorem dX3_setOut_13 : decode cX3_setOut 13 = .ok (.return_, 1) := kD177 (kBe kE_cX3_setOut rfl rfl)
theorem kE_cX3_flyMile : kDc cX3_flyMile 88057300912516490608175171594980599060953430031836968221356595486227955649513233786886442 37 := by unfold kDc; decide +kernel
theorem dX3_flyMile_0 : decode cX3_flyMile 0 = .ok (.aload_n 0, 1) := kD42 (kBe kE_cX3_flyMile rfl rfl)
theorem dX3_flyMile_1 : decode cX3_flyMile 1 = .ok (.dup, 1) := kD89 (kBe kE_cX3_flyMile rfl rfl)
theorem dX3_flyMile_2 : decode cX3_flyMile 2 = .ok (.getfield 16, 3) := kD180 (kBe kE_cX3_flyMile rfl rfl) (kBe kE_cX3_flyMile rfl rfl) (kBe kE_cX3_flyMile rfl rfl)
theorem dX3_flyMile_5 : decode cX3_flyMile 5 = .ok (.iconst 1, 1) := kD4 (kBe kE_cX3_flyMile rfl rfl)
theorem dX3_flyMile_6 : decode cX3_flyMile 6 = .ok (.iadd, 1) := kD96 (kBe kE_cX3_flyMile rfl rfl)
theorem dX3_flyMile_7 : decode cX3_flyMile 7 = .ok (.putfield 16, 3) := kD181 (kBe kE_cX3_flyMile rfl rfl) (kBe kE_cX3_flyMile rfl rfl) (kBe kE_cX3_flyMile rfl rfl)
theorem dX3_flyMile_10 : decode cX3_flyMile 10 = .ok (.aload_n 0, 1) := kD42 (kBe kE_cX3_flyMile rfl rfl)
theorem dX3_flyMile_11 : decode cX3_flyMile 11 = .ok (.getfield 16, 3) := kD180 (kBe kE_cX3_flyMile rfl rfl) (kBe kE_cX3_flyMile rfl rfl) (kBe kE_cX3_flyMile rfl rfl)
theorem dX3_flyMile_14 : decode cX3_flyMile 14 = .ok (.aload_n 0, 1) := kD42 (kBe kE_cX3_flyMile rfl rfl)
theorem dX3_flyMile_15 : decode cX3_flyMile 15 = .ok (.getfield 19, 3) := kD180 (kBe kE_cX3_flyMile rfl rfl) (kBe kE_cX3_flyMile rfl rfl) (kBe kE_cX3_flyMile rfl rfl)
theorem dX3_flyMile_18 : decode cX3_flyMile 18 = .ok (.if_icmp .ne 18, 3) := kD160 (kBe kE_cX3_flyMile rfl rfl) (kBe kE_cX3_flyMile rfl rfl) (kBe kE_cX3_flyMile rfl rfl) kS16_0_18
theorem dX3_flyMile_21 : decode cX3_flyMile 21 = .ok (.aload_n 0, 1) := kD42 (kBe kE_cX3_flyMile rfl rfl)
theorem dX3_flyMile_22 : decode cX3_flyMile 22 = .ok (.dup, 1) := kD89 (kBe kE_cX3_flyMile rfl rfl)
theorem dX3_flyMile_23 : decode cX3_flyMile 23 = .ok (.getfield 13, 3) := kD180 (kBe kE_cX3_flyMile rfl rfl) (kBe kE_cX3_flyMile rfl rfl) (kBe kE_cX3_flyMile rfl rfl)
theorem dX3_flyMile_26 : decode cX3_flyMile 26 = .ok (.iconst 1, 1) := kD4 (kBe kE_cX3_flyMile rfl rfl)
theorem dX3_flyMile_27 : decode cX3_flyMile 27 = .ok (.isub, 1) := kD100 (kBe kE_cX3_flyMile rfl rfl)
theorem dX3_flyMile_28 : decode cX3_flyMile 28 = .ok (.putfield 13, 3) := kD181 (kBe kE_cX3_flyMile rfl rfl) (kBe kE_cX3_flyMile rfl rfl) (kBe kE_cX3_flyMile rfl rfl)
theorem dX3_flyMile_31 : decode cX3_flyMile 31 = .ok (.aload_n 0, 1) := kD42 (kBe kE_cX3_flyMile rfl rfl)
theorem dX3_flyMile_32 : decode cX3_flyMile 32 = .ok (.iconst 0, 1) := kD3 (kBe kE_cX3_flyMile rfl rfl)
theorem dX3_flyMile_33 : decode cX3_flyMile 33 = .ok (.putfield 16, 3) := kD181 (kBe kE_cX3_flyMile rfl rfl) (kBe kE_cX3_flyMile rfl rfl) (kBe kE_cX3_flyMile rfl rfl)
theorem dX3_flyMile_36 : decode cX3_flyMile 36 = .ok (.return_, 1) := kD177 (kBe kE_cX3_flyMile rfl rfl)
theorem kE_cX3_rest : kDc cX3_rest 66242565756822213564163314345877138046403809642591274 22 := by unfold kDc; decide +kernel
theorem dX3_rest_0 : decode cX3_rest 0 = .ok (.aload_n 0, 1) := kD42 (kBe kE_cX3_rest rfl rfl)
theorem dX3_rest_1 : decode cX3_rest 1 = .ok (.getfield 13, 3) := kD180 (kBe kE_cX3_rest rfl rfl) (kBe kE_cX3_rest rfl rfl) (kBe kE_cX3_rest rfl rfl)
theorem dX3_rest_4 : decode cX3_rest 4 = .ok (.aload_n 0, 1) := kD42 (kBe kE_cX3_rest rfl rfl)
theorem dX3_rest_5 : decode cX3_rest 5 = .ok (.getfield 7, 3) := kD180 (kBe kE_cX3_rest rfl rfl) (kBe kE_cX3_rest rfl rfl) (kBe kE_cX3_rest rfl rfl)
theorem dX3_rest_8 : decode cX3_rest 8 = .ok (.if_icmp .ge 13, 3) := kD162 (kBe kE_cX3_rest rfl rfl) (kBe kE_cX3_rest rfl rfl) (kBe kE_cX3_rest rfl rfl) kS16_0_13
theorem dX3_rest_11 : decode cX3_rest 11 = .ok (.aload_n 0, 1) := kD42 (kBe kE_cX3_rest rfl rfl)
theorem dX3_rest_12 : decode cX3_rest 12 = .ok (.dup, 1) := kD89 (kBe kE_cX3_rest rfl rfl)
theorem dX3_rest_13 : decode cX3_rest 13 = .ok (.getfield 13, 3) := kD180 (kBe kE_cX3_rest rfl rfl) (kBe kE_cX3_rest rfl rfl) (kBe kE_cX3_rest rfl rfl)
theorem dX3_rest_16 : decode cX3_rest 16 = .ok (.iconst 1, 1) := kD4 (kBe kE_cX3_rest rfl rfl)
theorem dX3_rest_17 : decode cX3_rest 17 = .ok (.iadd, 1) := kD96 (kBe kE_cX3_rest rfl rfl)
theorem dX3_rest_18 : decode cX3_rest 18 = .ok (.putfield 13, 3) := kD181 (kBe kE_cX3_rest rfl rfl) (kBe kE_cX3_rest rfl rfl) (kBe kE_cX3_rest rfl rfl)
theorem dX3_rest_21 : decode cX3_rest 21 = .ok (.return_, 1) := kD177 (kBe kE_cX3_rest rfl rfl)
theorem kE_cX4_init : kDc cX4_init 49824372484476970 7 := by unfold kDc; decide +kernel
theorem dX4_init_0 : decode cX4_init 0 = .ok (.aload_n 0, 1) := kD42 (kBe kE_cX4_init rfl rfl)
theorem dX4_init_1 : decode cX4_init 1 = .ok (.bipush 24, 2) := kD16 (kBe kE_cX4_init rfl rfl) (kBe kE_cX4_init rfl rfl) kS8_24
theorem dX4_init_3 : decode cX4_init 3 = .ok (.invokespecial 3, 3) := kD183 (kBe kE_cX4_init rfl rfl) (kBe kE_cX4_init rfl rfl) (kBe kE_cX4_init rfl rfl)
theorem dX4_init_6 : decode cX4_init 6 = .ok (.return_, 1) := kD177 (kBe kE_cX4_init rfl rfl)
theorem kE_cX4_worth : kDc cX4_worth 35191084409240738378784335696736194319373787177254894900509075170273055697704277819038557385628661578778350661421082242009062968811427404418960762933276 63 := by unfold kDc; decide +kernel
theorem dX4_worth_0 : decode cX4_worth 0 = .ok (.iload_n 2, 1) := kD28 (kBe kE_cX4_worth rfl rfl)
theorem dX4_worth_1 : decode cX4_worth 1 = .ok (.bipush 97, 2) := kD16 (kBe kE_cX4_worth rfl rfl) (kBe kE_cX4_worth rfl rfl) kS8_97
theorem dX4_worth_3 : decode cX4_worth 3 = .ok (.if_icmp .lt 14, 3) := kD161 (kBe kE_cX4_worth rfl rfl) (kBe kE_cX4_worth rfl rfl) (kBe kE_cX4_worth rfl rfl) kS16_0_14
theorem dX4_worth_6 : decode cX4_worth 6 = .ok (.iload_n 2, 1) := kD28 (kBe kE_cX4_worth rfl rfl)
theorem dX4_worth_7 : decode cX4_worth 7 = .ok (.bipush 102, 2) := kD16 (kBe kE_cX4_worth rfl rfl) (kBe kE_cX4_worth rfl rfl) kS8_102
theorem dX4_worth_9 : decode cX4_worth 9 = .ok (.if_icmp .gt 8, 3) := kD163 (kBe kE_cX4_worth rfl rfl) (kBe kE_cX4_worth rfl rfl) (kBe kE_cX4_worth rfl rfl) kS16_0_8
theorem dX4_worth_12 : decode cX4_worth 12 = .ok (.iload_n 2, 1) := kD28 (kBe kE_cX4_worth rfl rfl)
theorem dX4_worth_13 : decode cX4_worth 13 = .ok (.bipush 97, 2) := kD16 (kBe kE_cX4_worth rfl rfl) (kBe kE_cX4_worth rfl rfl) kS8_97
theorem dX4_worth_15 : decode cX4_worth 15 = .ok (.isub, 1) := kD100 (kBe kE_cX4_worth rfl rfl)
theorem dX4_worth_16 : decode cX4_worth 16 = .ok (.ireturn, 1) := kD172 (kBe kE_cX4_worth rfl rfl)
theorem dX4_worth_17 : decode cX4_worth 17 = .ok (.iload_n 2, 1) := kD28 (kBe kE_cX4_worth rfl rfl)
theorem dX4_worth_52 : decode cX4_worth 52 = .ok (.bipush 6, 2) := kD16 (kBe kE_cX4_worth rfl rfl) (kBe kE_cX4_worth rfl rfl) kS8_6
theorem dX4_worth_54 : decode cX4_worth 54 = .ok (.ireturn, 1) := kD172 (kBe kE_cX4_worth rfl rfl)
theorem dX4_worth_55 : decode cX4_worth 55 = .ok (.bipush 7, 2) := kD16 (kBe kE_cX4_worth rfl rfl) (kBe kE_cX4_worth rfl rfl) kS8_7
theorem dX4_worth_57 : decode cX4_worth 57 = .ok (.ireturn, 1) := kD172 (kBe kE_cX4_worth rfl rfl)
theorem dX4_worth_58 : decode cX4_worth 58 = .ok (.bipush 8, 2) := kD16 (kBe kE_cX4_worth rfl rfl) (kBe kE_cX4_worth rfl rfl) kS8_8
theorem dX4_worth_60 : decode cX4_worth 60 = .ok (.ireturn, 1) := kD172 (kBe kE_cX4_worth rfl rfl)
theorem dX4_worth_61 : decode cX4_worth 61 = .ok (.iconst (-1), 1) := kD2 (kBe kE_cX4_worth rfl rfl)
theorem dX4_worth_62 : decode cX4_worth 62 = .ok (.ireturn, 1) := kD172 (kBe kE_cX4_worth rfl rfl)
theorem kE_cX4_thingsIn : kDc cX4_thingsIn 44059 2 := by unfold kDc; decide +kernel
theorem dX4_thingsIn_0 : decode cX4_thingsIn 0 = .ok (.iload_n 1, 1) := kD27 (kBe kE_cX4_thingsIn rfl rfl)
theorem dX4_thingsIn_1 : decode cX4_thingsIn 1 = .ok (.ireturn, 1) := kD172 (kBe kE_cX4_thingsIn rfl rfl)
theorem kE_cX4_isTown : kDc cX4_isTown 4217716568908006390917444709525241783893093640039120116522 24 := by unfold kDc; decide +kernel
theorem dX4_isTown_0 : decode cX4_isTown 0 = .ok (.aload_n 0, 1) := kD42 (kBe kE_cX4_isTown rfl rfl)
theorem dX4_isTown_1 : decode cX4_isTown 1 = .ok (.iload_n 1, 1) := kD27 (kBe kE_cX4_isTown rfl rfl)
theorem dX4_isTown_2 : decode cX4_isTown 2 = .ok (.invokevirtual 9, 3) := kD182 (kBe kE_cX4_isTown rfl rfl) (kBe kE_cX4_isTown rfl rfl) (kBe kE_cX4_isTown rfl rfl)
theorem dX4_isTown_5 : decode cX4_isTown 5 = .ok (.ifCond .eq 17, 3) := kD153 (kBe kE_cX4_isTown rfl rfl) (kBe kE_cX4_isTown rfl rfl) (kBe kE_cX4_isTown rfl rfl) kS16_0_17
theorem dX4_isTown_8 : decode cX4_isTown 8 = .ok (.aload_n 0, 1) := kD42 (kBe kE_cX4_isTown rfl rfl)
theorem dX4_isTown_9 : decode cX4_isTown 9 = .ok (.iload_n 1, 1) := kD27 (kBe kE_cX4_isTown rfl rfl)
theorem dX4_isTown_10 : decode cX4_isTown 10 = .ok (.invokevirtual 15, 3) := kD182 (kBe kE_cX4_isTown rfl rfl) (kBe kE_cX4_isTown rfl rfl) (kBe kE_cX4_isTown rfl rfl)
theorem dX4_isTown_13 : decode cX4_isTown 13 = .ok (.bipush 6, 2) := kD16 (kBe kE_cX4_isTown rfl rfl) (kBe kE_cX4_isTown rfl rfl) kS8_6
theorem dX4_isTown_15 : decode cX4_isTown 15 = .ok (.if_icmp .ge 7, 3) := kD162 (kBe kE_cX4_isTown rfl rfl) (kBe kE_cX4_isTown rfl rfl) (kBe kE_cX4_isTown rfl rfl) kS16_0_7
theorem dX4_isTown_18 : decode cX4_isTown 18 = .ok (.iconst 1, 1) := kD4 (kBe kE_cX4_isTown rfl rfl)
theorem dX4_isTown_19 : decode cX4_isTown 19 = .ok (.goto 4, 3) := kD167 (kBe kE_cX4_isTown rfl rfl) (kBe kE_cX4_isTown rfl rfl) (kBe kE_cX4_isTown rfl rfl) kS16_0_4
theorem dX4_isTown_22 : decode cX4_isTown 22 = .ok (.iconst 0, 1) := kD3 (kBe kE_cX4_isTown rfl rfl)
theorem dX4_isTown_23 : decode cX4_isTown 23 = .ok (.ireturn, 1) := kD172 (kBe kE_cX4_isTown rfl rfl)
theorem kE_cX4_towns : kDc cX4_towns 304090377844101376639517480987261871273461039750444812135991374573952252931 31 := by unfold kDc; decide +kernel
theorem dX4_towns_0 : decode cX4_towns 0 = .ok (.iconst 0, 1) := kD3 (kBe kE_cX4_towns rfl rfl)
theorem dX4_towns_1 : decode cX4_towns 1 = .ok (.istore_n 1, 1) := kD60 (kBe kE_cX4_towns rfl rfl)
theorem dX4_towns_2 : decode cX4_towns 2 = .ok (.iconst 0, 1) := kD3 (kBe kE_cX4_towns rfl rfl)
theorem dX4_towns_3 : decode cX4_towns 3 = .ok (.istore_n 2, 1) := kD61 (kBe kE_cX4_towns rfl rfl)
theorem dX4_towns_4 : decode cX4_towns 4 = .ok (.iload_n 2, 1) := kD28 (kBe kE_cX4_towns rfl rfl)
theorem dX4_towns_5 : decode cX4_towns 5 = .ok (.aload_n 0, 1) := kD42 (kBe kE_cX4_towns rfl rfl)
theorem dX4_towns_6 : decode cX4_towns 6 = .ok (.getfield 19, 3) := kD180 (kBe kE_cX4_towns rfl rfl) (kBe kE_cX4_towns rfl rfl) (kBe kE_cX4_towns rfl rfl)
theorem dX4_towns_9 : decode cX4_towns 9 = .ok (.if_icmp .ge 20, 3) := kD162 (kBe kE_cX4_towns rfl rfl) (kBe kE_cX4_towns rfl rfl) (kBe kE_cX4_towns rfl rfl) kS16_0_20
theorem dX4_towns_12 : decode cX4_towns 12 = .ok (.aload_n 0, 1) := kD42 (kBe kE_cX4_towns rfl rfl)
theorem dX4_towns_13 : decode cX4_towns 13 = .ok (.iload_n 2, 1) := kD28 (kBe kE_cX4_towns rfl rfl)
theorem dX4_towns_14 : decode cX4_towns 14 = .ok (.invokevirtual 23, 3) := kD182 (kBe kE_cX4_towns rfl rfl) (kBe kE_cX4_towns rfl rfl) (kBe kE_cX4_towns rfl rfl)
theorem dX4_towns_17 : decode cX4_towns 17 = .ok (.ifCond .eq 6, 3) := kD153 (kBe kE_cX4_towns rfl rfl) (kBe kE_cX4_towns rfl rfl) (kBe kE_cX4_towns rfl rfl) kS16_0_6
theorem dX4_towns_20 : decode cX4_towns 20 = .ok (.iinc 1 1, 3) := kD132 (kBe kE_cX4_towns rfl rfl) (kBe kE_cX4_towns rfl rfl) (kBe kE_cX4_towns rfl rfl) kS8_1
theorem dX4_towns_23 : decode cX4_towns 23 = .ok (.iinc 2 1, 3) := kD132 (kBe kE_cX4_towns rfl rfl) (kBe kE_cX4_towns rfl rfl) (kBe kE_cX4_towns rfl rfl) kS8_1
theorem dX4_towns_26 : decode cX4_towns 26 = .ok (.goto (-22), 3) := kD167 (kBe kE_cX4_towns rfl rfl) (kBe kE_cX4_towns rfl rfl) (kBe kE_cX4_towns rfl rfl) kS16_255_234
theorem dX4_towns_29 : decode cX4_towns 29 = .ok (.iload_n 1, 1) := kD27 (kBe kE_cX4_towns rfl rfl)
theorem dX4_towns_30 : decode cX4_towns 30 = .ok (.ireturn, 1) := kD172 (kBe kE_cX4_towns rfl rfl)
theorem kE_cX5_init : kDc cX5_init 14026170985077987237193075177258 13 := by unfold kDc; decide +kernel
theorem dX5_init_0 : decode cX5_init 0 = .ok (.aload_n 0, 1) := kD42 (kBe kE_cX5_init rfl rfl)
theorem dX5_init_1 : decode cX5_init 1 = .ok (.invokespecial 3, 3) := kD183 (kBe kE_cX5_init rfl rfl) (kBe kE_cX5_init rfl rfl) (kBe kE_cX5_init rfl rfl)
theorem dX5_init_4 : decode cX5_init 4 = .ok (.aload_n 0, 1) := kD42 (kBe kE_cX5_init rfl rfl)
theorem dX5_init_5 : decode cX5_init 5 = .ok (.bipush 46, 2) := kD16 (kBe kE_cX5_init rfl rfl) (kBe kE_cX5_init rfl rfl) kS8_46
theorem dX5_init_7 : decode cX5_init 7 = .ok (.newarray .long, 2) := kD188_11 (kBe kE_cX5_init rfl rfl) (kBe kE_cX5_init rfl rfl)
theorem dX5_init_9 : decode cX5_init 9 = .ok (.putfield 9, 3) := kD181 (kBe kE_cX5_init rfl rfl) (kBe kE_cX5_init rfl rfl) (kBe kE_cX5_init rfl rfl)
theorem dX5_init_12 : decode cX5_init 12 = .ok (.return_, 1) := kD177 (kBe kE_cX5_init rfl rfl)
theorem kE_cX5_weigh : kDc cX5_weigh 51209297203746512820957929541379756163296168451666481671824614519484119837673819432644740807560713856807333553142063808608015375804637017738559828089264629273887023959151284353782251032086858539312343835585448368452924167645953373035956923572955303633490212854295011948544762392462344027507472221795601719492490990520904056645908842576460970313049862008716085174883125546 154 := by unfold kDc; decide +kernel
theorem dX5_weigh_0 : decode cX5_weigh 0 = .ok (.aload_n 0, 1) := kD42 (kBe kE_cX5_weigh rfl rfl)
theorem dX5_weigh_1 : decode cX5_weigh 1 = .ok (.lconst 0, 1) := kD9 (kBe kE_cX5_weigh rfl rfl)
theorem dX5_weigh_2 : decode cX5_weigh 2 = .ok (.putfield 15, 3) := kD181 (kBe kE_cX5_weigh rfl rfl) (kBe kE_cX5_weigh rfl rfl) (kBe kE_cX5_weigh rfl rfl)
theorem dX5_weigh_5 : decode cX5_weigh 5 = .ok (.aload_n 0, 1) := kD42 (kBe kE_cX5_weigh rfl rfl)
theorem dX5_weigh_6 : decode cX5_weigh 6 = .ok (.lconst 1, 1) := kD10 (kBe kE_cX5_weigh rfl rfl)
theorem dX5_weigh_7 : decode cX5_weigh 7 = .ok (.putfield 19, 3) := kD181 (kBe kE_cX5_weigh rfl rfl) (kBe kE_cX5_weigh rfl rfl) (kBe kE_cX5_weigh rfl rfl)
theorem dX5_weigh_10 : decode cX5_weigh 10 = .ok (.aload_n 2, 1) := kD44 (kBe kE_cX5_weigh rfl rfl)
theorem dX5_weigh_11 : decode cX5_weigh 11 = .ok (.getfield 22, 3) := kD180 (kBe kE_cX5_weigh rfl rfl) (kBe kE_cX5_weigh rfl rfl) (kBe kE_cX5_weigh rfl rfl)
theorem dX5_weigh_14 : decode cX5_weigh 14 = .ok (.ifCond .eq 17, 3) := kD153 (kBe kE_cX5_weigh rfl rfl) (kBe kE_cX5_weigh rfl rfl) (kBe kE_cX5_weigh rfl rfl) kS16_0_17
theorem dX5_weigh_17 : decode cX5_weigh 17 = .ok (.aload_n 2, 1) := kD44 (kBe kE_cX5_weigh rfl rfl)
theorem dX5_weigh_18 : decode cX5_weigh 18 = .ok (.getfield 28, 3) := kD180 (kBe kE_cX5_weigh rfl rfl) (kBe kE_cX5_weigh rfl rfl) (kBe kE_cX5_weigh rfl rfl)
theorem dX5_weigh_21 : decode cX5_weigh 21 = .ok (.aload_n 2, 1) := kD44 (kBe kE_cX5_weigh rfl rfl)
theorem dX5_weigh_22 : decode cX5_weigh 22 = .ok (.getfield 32, 3) := kD180 (kBe kE_cX5_weigh rfl rfl) (kBe kE_cX5_weigh rfl rfl) (kBe kE_cX5_weigh rfl rfl)
theorem dX5_weigh_25 : decode cX5_weigh 25 = .ok (.getfield 36, 3) := kD180 (kBe kE_cX5_weigh rfl rfl) (kBe kE_cX5_weigh rfl rfl) (kBe kE_cX5_weigh rfl rfl)
theorem dX5_weigh_28 : decode cX5_weigh 28 = .ok (.if_icmp .ge 4, 3) := kD162 (kBe kE_cX5_weigh rfl rfl) (kBe kE_cX5_weigh rfl rfl) (kBe kE_cX5_weigh rfl rfl) kS16_0_4
theorem dX5_weigh_31 : decode cX5_weigh 31 = .ok (.return_, 1) := kD177 (kBe kE_cX5_weigh rfl rfl)
theorem dX5_weigh_32 : decode cX5_weigh 32 = .ok (.aload_n 0, 1) := kD42 (kBe kE_cX5_weigh rfl rfl)
theorem dX5_weigh_33 : decode cX5_weigh 33 = .ok (.lconst 1, 1) := kD10 (kBe kE_cX5_weigh rfl rfl)
theorem dX5_weigh_34 : decode cX5_weigh 34 = .ok (.invokevirtual 41, 3) := kD182 (kBe kE_cX5_weigh rfl rfl) (kBe kE_cX5_weigh rfl rfl) (kBe kE_cX5_weigh rfl rfl)
theorem dX5_weigh_37 : decode cX5_weigh 37 = .ok (.iconst 0, 1) := kD3 (kBe kE_cX5_weigh rfl rfl)
theorem dX5_weigh_38 : decode cX5_weigh 38 = .ok (.istore 4, 2) := kD54 (kBe kE_cX5_weigh rfl rfl) (kBe kE_cX5_weigh rfl rfl)
theorem dX5_weigh_40 : decode cX5_weigh 40 = .ok (.iconst 0, 1) := kD3 (kBe kE_cX5_weigh rfl rfl)
theorem dX5_weigh_41 : decode cX5_weigh 41 = .ok (.istore 5, 2) := kD54 (kBe kE_cX5_weigh rfl rfl) (kBe kE_cX5_weigh rfl rfl)
theorem dX5_weigh_43 : decode cX5_weigh 43 = .ok (.iload 5, 2) := kD21 (kBe kE_cX5_weigh rfl rfl) (kBe kE_cX5_weigh rfl rfl)
theorem dX5_weigh_45 : decode cX5_weigh 45 = .ok (.aload_n 2, 1) := kD44 (kBe kE_cX5_weigh rfl rfl)
theorem dX5_weigh_46 : decode cX5_weigh 46 = .ok (.getfield 32, 3) := kD180 (kBe kE_cX5_weigh rfl rfl) (kBe kE_cX5_weigh rfl rfl) (kBe kE_cX5_weigh rfl rfl)
theorem dX5_weigh_49 : decode cX5_weigh 49 = .ok (.getfield 36, 3) := kD180 (kBe kE_cX5_weigh rfl rfl) (kBe kE_cX5_weigh rfl rfl) (kBe kE_cX5_weigh rfl rfl)
theorem dX5_weigh_52 : decode cX5_weigh 52 = .ok (.if_icmp .ge 89, 3) := kD162 (kBe kE_cX5_weigh rfl rfl) (kBe kE_cX5_weigh rfl rfl) (kBe kE_cX5_weigh rfl rfl) kS16_0_89
theorem dX5_weigh_55 : decode cX5_weigh 55 = .ok (.iload 4, 2) := kD21 (kBe kE_cX5_weigh rfl rfl) (kBe kE_cX5_weigh rfl rfl)
theorem dX5_weigh_57 : decode cX5_weigh 57 = .ok (.iconst 0, 1) := kD3 (kBe kE_cX5_weigh rfl rfl)
theorem dX5_weigh_58 : decode cX5_weigh 58 = .ok (.iload_n 3, 1) := kD29 (kBe kE_cX5_weigh rfl rfl)
theorem dX5_weigh_59 : decode cX5_weigh 59 = .ok (.iconst 5, 1) := kD8 (kBe kE_cX5_weigh rfl rfl)
theorem dX5_weigh_60 : decode cX5_weigh 60 = .ok (.isub, 1) := kD100 (kBe kE_cX5_weigh rfl rfl)
theorem dX5_weigh_61 : decode cX5_weigh 61 = .ok (.invokestatic 45, 3) := kD184 (kBe kE_cX5_weigh rfl rfl) (kBe kE_cX5_weigh rfl rfl) (kBe kE_cX5_weigh rfl rfl)
theorem dX5_weigh_64 : decode cX5_weigh 64 = .ok (.iadd, 1) := kD96 (kBe kE_cX5_weigh rfl rfl)
theorem dX5_weigh_65 : decode cX5_weigh 65 = .ok (.istore 4, 2) := kD54 (kBe kE_cX5_weigh rfl rfl) (kBe kE_cX5_weigh rfl rfl)
theorem dX5_weigh_67 : decode cX5_weigh 67 = .ok (.iload 4, 2) := kD21 (kBe kE_cX5_weigh rfl rfl) (kBe kE_cX5_weigh rfl rfl)
theorem dX5_weigh_69 : decode cX5_weigh 69 = .ok (.bipush 20, 2) := kD16 (kBe kE_cX5_weigh rfl rfl) (kBe kE_cX5_weigh rfl rfl) kS8_20
theorem dX5_weigh_71 : decode cX5_weigh 71 = .ok (.if_icmp .le 9, 3) := kD164 (kBe kE_cX5_weigh rfl rfl) (kBe kE_cX5_weigh rfl rfl) (kBe kE_cX5_weigh rfl rfl) kS16_0_9
theorem dX5_weigh_74 : decode cX5_weigh 74 = .ok (.aload_n 0, 1) := kD42 (kBe kE_cX5_weigh rfl rfl)
theorem dX5_weigh_75 : decode cX5_weigh 75 = .ok (.lconst 1, 1) := kD10 (kBe kE_cX5_weigh rfl rfl)
theorem dX5_weigh_76 : decode cX5_weigh 76 = .ok (.putfield 19, 3) := kD181 (kBe kE_cX5_weigh rfl rfl) (kBe kE_cX5_weigh rfl rfl) (kBe kE_cX5_weigh rfl rfl)
theorem dX5_weigh_79 : decode cX5_weigh 79 = .ok (.return_, 1) := kD177 (kBe kE_cX5_weigh rfl rfl)
theorem dX5_weigh_80 : decode cX5_weigh 80 = .ok (.aload_n 2, 1) := kD44 (kBe kE_cX5_weigh rfl rfl)
theorem dX5_weigh_81 : decode cX5_weigh 81 = .ok (.getfield 32, 3) := kD180 (kBe kE_cX5_weigh rfl rfl) (kBe kE_cX5_weigh rfl rfl) (kBe kE_cX5_weigh rfl rfl)
theorem dX5_weigh_84 : decode cX5_weigh 84 = .ok (.iload 5, 2) := kD21 (kBe kE_cX5_weigh rfl rfl) (kBe kE_cX5_weigh rfl rfl)
theorem dX5_weigh_86 : decode cX5_weigh 86 = .ok (.invokevirtual 51, 3) := kD182 (kBe kE_cX5_weigh rfl rfl) (kBe kE_cX5_weigh rfl rfl) (kBe kE_cX5_weigh rfl rfl)
theorem dX5_weigh_89 : decode cX5_weigh 89 = .ok (.istore 6, 2) := kD54 (kBe kE_cX5_weigh rfl rfl) (kBe kE_cX5_weigh rfl rfl)
theorem dX5_weigh_91 : decode cX5_weigh 91 = .ok (.iload 6, 2) := kD21 (kBe kE_cX5_weigh rfl rfl) (kBe kE_cX5_weigh rfl rfl)
theorem dX5_weigh_93 : decode cX5_weigh 93 = .ok (.bipush 7, 2) := kD16 (kBe kE_cX5_weigh rfl rfl) (kBe kE_cX5_weigh rfl rfl) kS8_7
theorem dX5_weigh_95 : decode cX5_weigh 95 = .ok (.if_icmp .ne 17, 3) := kD160 (kBe kE_cX5_weigh rfl rfl) (kBe kE_cX5_weigh rfl rfl) (kBe kE_cX5_weigh rfl rfl) kS16_0_17
theorem dX5_weigh_98 : decode cX5_weigh 98 = .ok (.aload_n 0, 1) := kD42 (kBe kE_cX5_weigh rfl rfl)
theorem dX5_weigh_99 : decode cX5_weigh 99 = .ok (.aload_n 0, 1) := kD42 (kBe kE_cX5_weigh rfl rfl)
theorem dX5_weigh_100 : decode cX5_weigh 100 = .ok (.invokevirtual 55, 3) := kD182 (kBe kE_cX5_weigh rfl rfl) (kBe kE_cX5_weigh rfl rfl) (kBe kE_cX5_weigh rfl rfl)
theorem dX5_weigh_103 : decode cX5_weigh 103 = .ok (.invokevirtual 41, 3) := kD182 (kBe kE_cX5_weigh rfl rfl) (kBe kE_cX5_weigh rfl rfl) (kBe kE_cX5_weigh rfl rfl)
theorem dX5_weigh_106 : decode cX5_weigh 106 = .ok (.iconst 0, 1) := kD3 (kBe kE_cX5_weigh rfl rfl)
theorem dX5_weigh_107 : decode cX5_weigh 107 = .ok (.istore 4, 2) := kD54 (kBe kE_cX5_weigh rfl rfl) (kBe kE_cX5_weigh rfl rfl)
theorem dX5_weigh_109 : decode cX5_weigh 109 = .ok (.goto 26, 3) := kD167 (kBe kE_cX5_weigh rfl rfl) (kBe kE_cX5_weigh rfl rfl) (kBe kE_cX5_weigh rfl rfl) kS16_0_26
theorem dX5_weigh_112 : decode cX5_weigh 112 = .ok (.iload 6, 2) := kD21 (kBe kE_cX5_weigh rfl rfl) (kBe kE_cX5_weigh rfl rfl)
theorem dX5_weigh_114 : decode cX5_weigh 114 = .ok (.bipush 6, 2) := kD16 (kBe kE_cX5_weigh rfl rfl) (kBe kE_cX5_weigh rfl rfl) kS8_6
theorem dX5_weigh_116 : decode cX5_weigh 116 = .ok (.if_icmp .ge 19, 3) := kD162 (kBe kE_cX5_weigh rfl rfl) (kBe kE_cX5_weigh rfl rfl) (kBe kE_cX5_weigh rfl rfl) kS16_0_19
theorem dX5_weigh_119 : decode cX5_weigh 119 = .ok (.aload_n 0, 1) := kD42 (kBe kE_cX5_weigh rfl rfl)
theorem dX5_weigh_120 : decode cX5_weigh 120 = .ok (.iload_n 1, 1) := kD27 (kBe kE_cX5_weigh rfl rfl)
theorem dX5_weigh_121 : decode cX5_weigh 121 = .ok (.aload_n 2, 1) := kD44 (kBe kE_cX5_weigh rfl rfl)
theorem dX5_weigh_122 : decode cX5_weigh 122 = .ok (.iload 6, 2) := kD21 (kBe kE_cX5_weigh rfl rfl) (kBe kE_cX5_weigh rfl rfl)
theorem dX5_weigh_124 : decode cX5_weigh 124 = .ok (.iload_n 3, 1) := kD29 (kBe kE_cX5_weigh rfl rfl)
theorem dX5_weigh_125 : decode cX5_weigh 125 = .ok (.invokevirtual 59, 3) := kD182 (kBe kE_cX5_weigh rfl rfl) (kBe kE_cX5_weigh rfl rfl) (kBe kE_cX5_weigh rfl rfl)
theorem dX5_weigh_128 : decode cX5_weigh 128 = .ok (.aload_n 2, 1) := kD44 (kBe kE_cX5_weigh rfl rfl)
theorem dX5_weigh_129 : decode cX5_weigh 129 = .ok (.getfield 62, 3) := kD180 (kBe kE_cX5_weigh rfl rfl) (kBe kE_cX5_weigh rfl rfl) (kBe kE_cX5_weigh rfl rfl)
theorem dX5_weigh_132 : decode cX5_weigh 132 = .ok (.invokevirtual 65, 3) := kD182 (kBe kE_cX5_weigh rfl rfl) (kBe kE_cX5_weigh rfl rfl) (kBe kE_cX5_weigh rfl rfl)
theorem dX5_weigh_135 : decode cX5_weigh 135 = .ok (.iinc 5 1, 3) := kD132 (kBe kE_cX5_weigh rfl rfl) (kBe kE_cX5_weigh rfl rfl) (kBe kE_cX5_weigh rfl rfl) kS8_1
theorem dX5_weigh_138 : decode cX5_weigh 138 = .ok (.goto (-95), 3) := kD167 (kBe kE_cX5_weigh rfl rfl) (kBe kE_cX5_weigh rfl rfl) (kBe kE_cX5_weigh rfl rfl) kS16_255_161
theorem dX5_weigh_141 : decode cX5_weigh 141 = .ok (.aload_n 0, 1) := kD42 (kBe kE_cX5_weigh rfl rfl)
theorem dX5_weigh_142 : decode cX5_weigh 142 = .ok (.aload_n 0, 1) := kD42 (kBe kE_cX5_weigh rfl rfl)
theorem dX5_weigh_143 : decode cX5_weigh 143 = .ok (.invokevirtual 55, 3) := kD182 (kBe kE_cX5_weigh rfl rfl) (kBe kE_cX5_weigh rfl rfl) (kBe kE_cX5_weigh rfl rfl)
theorem dX5_weigh_146 : decode cX5_weigh 146 = .ok (.putfield 15, 3) := kD181 (kBe kE_cX5_weigh rfl rfl) (kBe kE_cX5_weigh rfl rfl) (kBe kE_cX5_weigh rfl rfl)
theorem dX5_weigh_149 : decode cX5_weigh 149 = .ok (.aload_n 0, 1) := kD42 (kBe kE_cX5_weigh rfl rfl)
theorem dX5_weigh_150 : decode cX5_weigh 150 = .ok (.invokevirtual 69, 3) := kD182 (kBe kE_cX5_weigh rfl rfl) (kBe kE_cX5_weigh rfl rfl) (kBe kE_cX5_weigh rfl rfl)
theorem dX5_weigh_153 : decode cX5_weigh 153 = .ok (.return_, 1) := kD177 (kBe kE_cX5_weigh rfl rfl)
theorem kE_cX5_startCalm : kDc cX5_startCalm 80200936000385112140713333922172364108151965932724135614333588983006250221060 32 := by unfold kDc; decide +kernel
theorem dX5_startCalm_0 : decode cX5_startCalm 0 = .ok (.iconst 1, 1) := kD4 (kBe kE_cX5_startCalm rfl rfl)
theorem dX5_startCalm_1 : decode cX5_startCalm 1 = .ok (.istore_n 3, 1) := kD62 (kBe kE_cX5_startCalm rfl rfl)
theorem dX5_startCalm_2 : decode cX5_startCalm 2 = .ok (.iload_n 3, 1) := kD29 (kBe kE_cX5_startCalm rfl rfl)
theorem dX5_startCalm_3 : decode cX5_startCalm 3 = .ok (.aload_n 0, 1) := kD42 (kBe kE_cX5_startCalm rfl rfl)
theorem dX5_startCalm_4 : decode cX5_startCalm 4 = .ok (.getfield 9, 3) := kD180 (kBe kE_cX5_startCalm rfl rfl) (kBe kE_cX5_startCalm rfl rfl) (kBe kE_cX5_startCalm rfl rfl)
theorem dX5_startCalm_7 : decode cX5_startCalm 7 = .ok (.arraylength, 1) := kD190 (kBe kE_cX5_startCalm rfl rfl)
theorem dX5_startCalm_8 : decode cX5_startCalm 8 = .ok (.if_icmp .ge 16, 3) := kD162 (kBe kE_cX5_startCalm rfl rfl) (kBe kE_cX5_startCalm rfl rfl) (kBe kE_cX5_startCalm rfl rfl) kS16_0_16
theorem dX5_startCalm_11 : decode cX5_startCalm 11 = .ok (.aload_n 0, 1) := kD42 (kBe kE_cX5_startCalm rfl rfl)
theorem dX5_startCalm_12 : decode cX5_startCalm 12 = .ok (.getfield 9, 3) := kD180 (kBe kE_cX5_startCalm rfl rfl) (kBe kE_cX5_startCalm rfl rfl) (kBe kE_cX5_startCalm rfl rfl)
theorem dX5_startCalm_15 : decode cX5_startCalm 15 = .ok (.iload_n 3, 1) := kD29 (kBe kE_cX5_startCalm rfl rfl)
theorem dX5_startCalm_16 : decode cX5_startCalm 16 = .ok (.lconst 0, 1) := kD9 (kBe kE_cX5_startCalm rfl rfl)
theorem dX5_startCalm_17 : decode cX5_startCalm 17 = .ok (.lastore, 1) := kD80 (kBe kE_cX5_startCalm rfl rfl)
theorem dX5_startCalm_18 : decode cX5_startCalm 18 = .ok (.iinc 3 1, 3) := kD132 (kBe kE_cX5_startCalm rfl rfl) (kBe kE_cX5_startCalm rfl rfl) (kBe kE_cX5_startCalm rfl rfl) kS8_1
theorem dX5_startCalm_21 : decode cX5_startCalm 21 = .ok (.goto (-19), 3) := kD167 (kBe kE_cX5_startCalm rfl rfl) (kBe kE_cX5_startCalm rfl rfl) (kBe kE_cX5_startCalm rfl rfl) kS16_255_237
theorem dX5_startCalm_24 : decode cX5_startCalm 24 = .ok (.aload_n 0, 1) := kD42 (kBe kE_cX5_startCalm rfl rfl)
theorem dX5_startCalm_25 : decode cX5_startCalm 25 = .ok (.getfield 9, 3) := kD180 (kBe kE_cX5_startCalm rfl rfl) (kBe kE_cX5_startCalm rfl rfl) (kBe kE_cX5_startCalm rfl rfl)
theorem dX5_startCalm_28 : decode cX5_startCalm 28 = .ok (.iconst 0, 1) := kD3 (kBe kE_cX5_startCalm rfl rfl)
theorem dX5_startCalm_29 : decode cX5_startCalm 29 = .ok (.lload_n 1, 1) := kD31 (kBe kE_cX5_startCalm rfl rfl)
theorem dX5_startCalm_30 : decode cX5_startCalm 30 = .ok (.lastore, 1) := kD80 (kBe kE_cX5_startCalm rfl rfl)
theorem dX5_startCalm_31 : decode cX5_startCalm 31 = .ok (.return_, 1) := kD177 (kBe kE_cX5_startCalm rfl rfl)
theorem kE_cX5_hear : kDc cX5_hear 13608872584404361357400352896725197697282732410397923699434627768607599665451346902268954404112329485994640537008821102732633165737654425580706022307992077249309145842571162939565633305820092588814802204 84 := by unfold kDc; decide +kernel
theorem dX5_hear_0 : decode cX5_hear 0 = .ok (.iload_n 2, 1) := kD28 (kBe kE_cX5_hear rfl rfl)
theorem dX5_hear_1 : decode cX5_hear 1 = .ok (.ifCond .gt 4, 3) := kD157 (kBe kE_cX5_hear rfl rfl) (kBe kE_cX5_hear rfl rfl) (kBe kE_cX5_hear rfl rfl) kS16_0_4
theorem dX5_hear_4 : decode cX5_hear 4 = .ok (.return_, 1) := kD177 (kBe kE_cX5_hear rfl rfl)
theorem dX5_hear_5 : decode cX5_hear 5 = .ok (.aload_n 0, 1) := kD42 (kBe kE_cX5_hear rfl rfl)
theorem dX5_hear_6 : decode cX5_hear 6 = .ok (.dup, 1) := kD89 (kBe kE_cX5_hear rfl rfl)
theorem dX5_hear_7 : decode cX5_hear 7 = .ok (.getfield 19, 3) := kD180 (kBe kE_cX5_hear rfl rfl) (kBe kE_cX5_hear rfl rfl) (kBe kE_cX5_hear rfl rfl)
theorem dX5_hear_10 : decode cX5_hear 10 = .ok (.ldc2_w 72, 3) := kD20 (kBe kE_cX5_hear rfl rfl) (kBe kE_cX5_hear rfl rfl) (kBe kE_cX5_hear rfl rfl)
theorem dX5_hear_13 : decode cX5_hear 13 = .ok (.lmul, 1) := kD105 (kBe kE_cX5_hear rfl rfl)
theorem dX5_hear_14 : decode cX5_hear 14 = .ok (.putfield 19, 3) := kD181 (kBe kE_cX5_hear rfl rfl) (kBe kE_cX5_hear rfl rfl) (kBe kE_cX5_hear rfl rfl)
theorem dX5_hear_17 : decode cX5_hear 17 = .ok (.iload_n 3, 1) := kD29 (kBe kE_cX5_hear rfl rfl)
theorem dX5_hear_18 : decode cX5_hear 18 = .ok (.bipush 45, 2) := kD16 (kBe kE_cX5_hear rfl rfl) (kBe kE_cX5_hear rfl rfl) kS8_45
theorem dX5_hear_20 : decode cX5_hear 20 = .ok (.invokestatic 74, 3) := kD184 (kBe kE_cX5_hear rfl rfl) (kBe kE_cX5_hear rfl rfl) (kBe kE_cX5_hear rfl rfl)
theorem dX5_hear_23 : decode cX5_hear 23 = .ok (.istore 4, 2) := kD54 (kBe kE_cX5_hear rfl rfl) (kBe kE_cX5_hear rfl rfl)
theorem dX5_hear_25 : decode cX5_hear 25 = .ok (.iload 4, 2) := kD21 (kBe kE_cX5_hear rfl rfl) (kBe kE_cX5_hear rfl rfl)
theorem dX5_hear_27 : decode cX5_hear 27 = .ok (.ifCond .lt 56, 3) := kD155 (kBe kE_cX5_hear rfl rfl) (kBe kE_cX5_hear rfl rfl) (kBe kE_cX5_hear rfl rfl) kS16_0_56
theorem dX5_hear_30 : decode cX5_hear 30 = .ok (.iload 4, 2) := kD21 (kBe kE_cX5_hear rfl rfl) (kBe kE_cX5_hear rfl rfl)
theorem dX5_hear_32 : decode cX5_hear 32 = .ok (.iload_n 2, 1) := kD28 (kBe kE_cX5_hear rfl rfl)
theorem dX5_hear_33 : decode cX5_hear 33 = .ok (.if_icmp .lt 18, 3) := kD161 (kBe kE_cX5_hear rfl rfl) (kBe kE_cX5_hear rfl rfl) (kBe kE_cX5_hear rfl rfl) kS16_0_18
theorem dX5_hear_36 : decode cX5_hear 36 = .ok (.aload_n 0, 1) := kD42 (kBe kE_cX5_hear rfl rfl)
theorem dX5_hear_37 : decode cX5_hear 37 = .ok (.getfield 9, 3) := kD180 (kBe kE_cX5_hear rfl rfl) (kBe kE_cX5_hear rfl rfl) (kBe kE_cX5_hear rfl rfl)
theorem dX5_hear_40 : decode cX5_hear 40 = .ok (.iload 4, 2) := kD21 (kBe kE_cX5_hear rfl rfl) (kBe kE_cX5_hear rfl rfl)
theorem dX5_hear_42 : decode cX5_hear 42 = .ok (.iload_n 2, 1) := kD28 (kBe kE_cX5_hear rfl rfl)
theorem dX5_hear_43 : decode cX5_hear 43 = .ok (.isub, 1) := kD100 (kBe kE_cX5_hear rfl rfl)
theorem dX5_hear_44 : decode cX5_hear 44 = .ok (.laload, 1) := kD47 (kBe kE_cX5_hear rfl rfl)
theorem dX5_hear_45 : decode cX5_hear 45 = .ok (.iload_n 1, 1) := kD27 (kBe kE_cX5_hear rfl rfl)
theorem dX5_hear_46 : decode cX5_hear 46 = .ok (.i2l, 1) := kD133 (kBe kE_cX5_hear rfl rfl)
theorem dX5_hear_47 : decode cX5_hear 47 = .ok (.lmul, 1) := kD105 (kBe kE_cX5_hear rfl rfl)
theorem dX5_hear_48 : decode cX5_hear 48 = .ok (.goto 4, 3) := kD167 (kBe kE_cX5_hear rfl rfl) (kBe kE_cX5_hear rfl rfl) (kBe kE_cX5_hear rfl rfl) kS16_0_4
theorem dX5_hear_51 : decode cX5_hear 51 = .ok (.lconst 0, 1) := kD9 (kBe kE_cX5_hear rfl rfl)
theorem dX5_hear_52 : decode cX5_hear 52 = .ok (.lstore 5, 2) := kD55 (kBe kE_cX5_hear rfl rfl) (kBe kE_cX5_hear rfl rfl)
theorem dX5_hear_54 : decode cX5_hear 54 = .ok (.aload_n 0, 1) := kD42 (kBe kE_cX5_hear rfl rfl)
theorem dX5_hear_55 : decode cX5_hear 55 = .ok (.getfield 9, 3) := kD180 (kBe kE_cX5_hear rfl rfl) (kBe kE_cX5_hear rfl rfl) (kBe kE_cX5_hear rfl rfl)
theorem dX5_hear_58 : decode cX5_hear 58 = .ok (.iload 4, 2) := kD21 (kBe kE_cX5_hear rfl rfl) (kBe kE_cX5_hear rfl rfl)
theorem dX5_hear_60 : decode cX5_hear 60 = .ok (.aload_n 0, 1) := kD42 (kBe kE_cX5_hear rfl rfl)
theorem dX5_hear_61 : decode cX5_hear 61 = .ok (.getfield 9, 3) := kD180 (kBe kE_cX5_hear rfl rfl) (kBe kE_cX5_hear rfl rfl) (kBe kE_cX5_hear rfl rfl)
theorem dX5_hear_64 : decode cX5_hear 64 = .ok (.iload 4, 2) := kD21 (kBe kE_cX5_hear rfl rfl) (kBe kE_cX5_hear rfl rfl)
theorem dX5_hear_66 : decode cX5_hear 66 = .ok (.laload, 1) := kD47 (kBe kE_cX5_hear rfl rfl)
theorem dX5_hear_67 : decode cX5_hear 67 = .ok (.bipush 16, 2) := kD16 (kBe kE_cX5_hear rfl rfl) (kBe kE_cX5_hear rfl rfl) kS8_16
theorem dX5_hear_69 : decode cX5_hear 69 = .ok (.iload_n 1, 1) := kD27 (kBe kE_cX5_hear rfl rfl)
theorem dX5_hear_70 : decode cX5_hear 70 = .ok (.isub, 1) := kD100 (kBe kE_cX5_hear rfl rfl)
theorem dX5_hear_71 : decode cX5_hear 71 = .ok (.i2l, 1) := kD133 (kBe kE_cX5_hear rfl rfl)
theorem dX5_hear_72 : decode cX5_hear 72 = .ok (.lmul, 1) := kD105 (kBe kE_cX5_hear rfl rfl)
theorem dX5_hear_73 : decode cX5_hear 73 = .ok (.lload 5, 2) := kD22 (kBe kE_cX5_hear rfl rfl) (kBe kE_cX5_hear rfl rfl)
theorem dX5_hear_75 : decode cX5_hear 75 = .ok (.ladd, 1) := kD97 (kBe kE_cX5_hear rfl rfl)
theorem dX5_hear_76 : decode cX5_hear 76 = .ok (.lastore, 1) := kD80 (kBe kE_cX5_hear rfl rfl)
theorem dX5_hear_77 : decode cX5_hear 77 = .ok (.iinc 4 (-1), 3) := kD132 (kBe kE_cX5_hear rfl rfl) (kBe kE_cX5_hear rfl rfl) (kBe kE_cX5_hear rfl rfl) kS8_255
theorem dX5_hear_80 : decode cX5_hear 80 = .ok (.goto (-55), 3) := kD167 (kBe kE_cX5_hear rfl rfl) (kBe kE_cX5_hear rfl rfl) (kBe kE_cX5_hear rfl rfl) kS16_255_201
theorem dX5_hear_83 : decode cX5_hear 83 = .ok (.return_, 1) := kD177 (kBe kE_cX5_hear rfl rfl)
theorem kE_cX5_sum : kDc cX5_sum 1194862729899271861945554853614856550800924248506738277902993154415738889 30 := by unfold kDc; decide +kernel
theorem dX5_sum_0 : decode cX5_sum 0 = .ok (.lconst 0, 1) := kD9 (kBe kE_cX5_sum rfl rfl)
theorem dX5_sum_1 : decode cX5_sum 1 = .ok (.lstore_n 1, 1) := kD64 (kBe kE_cX5_sum rfl rfl)
theorem dX5_sum_2 : decode cX5_sum 2 = .ok (.iconst 0, 1) := kD3 (kBe kE_cX5_sum rfl rfl)
theorem dX5_sum_3 : decode cX5_sum 3 = .ok (.istore_n 3, 1) := kD62 (kBe kE_cX5_sum rfl rfl)
theorem dX5_sum_4 : decode cX5_sum 4 = .ok (.iload_n 3, 1) := kD29 (kBe kE_cX5_sum rfl rfl)
theorem dX5_sum_5 : decode cX5_sum 5 = .ok (.aload_n 0, 1) := kD42 (kBe kE_cX5_sum rfl rfl)
theorem dX5_sum_6 : decode cX5_sum 6 = .ok (.getfield 9, 3) := kD180 (kBe kE_cX5_sum rfl rfl) (kBe kE_cX5_sum rfl rfl) (kBe kE_cX5_sum rfl rfl)
theorem dX5_sum_9 : decode cX5_sum 9 = .ok (.arraylength, 1) := kD190 (kBe kE_cX5_sum rfl rfl)
theorem dX5_sum_10 : decode cX5_sum 10 = .ok (.if_icmp .ge 18, 3) := kD162 (kBe kE_cX5_sum rfl rfl) (kBe kE_cX5_sum rfl rfl) (kBe kE_cX5_sum rfl rfl) kS16_0_18
theorem dX5_sum_13 : decode cX5_sum 13 = .ok (.lload_n 1, 1) := kD31 (kBe kE_cX5_sum rfl rfl)
theorem dX5_sum_14 : decode cX5_sum 14 = .ok (.aload_n 0, 1) := kD42 (kBe kE_cX5_sum rfl rfl)
theorem dX5_sum_15 : decode cX5_sum 15 = .ok (.getfield 9, 3) := kD180 (kBe kE_cX5_sum rfl rfl) (kBe kE_cX5_sum rfl rfl) (kBe kE_cX5_sum rfl rfl)
theorem dX5_sum_18 : decode cX5_sum 18 = .ok (.iload_n 3, 1) := kD29 (kBe kE_cX5_sum rfl rfl)
theorem dX5_sum_19 : decode cX5_sum 19 = .ok (.laload, 1) := kD47 (kBe kE_cX5_sum rfl rfl)
theorem dX5_sum_20 : decode cX5_sum 20 = .ok (.ladd, 1) := kD97 (kBe kE_cX5_sum rfl rfl)
theorem dX5_sum_21 : decode cX5_sum 21 = .ok (.lstore_n 1, 1) := kD64 (kBe kE_cX5_sum rfl rfl)
theorem dX5_sum_22 : decode cX5_sum 22 = .ok (.iinc 3 1, 3) := kD132 (kBe kE_cX5_sum rfl rfl) (kBe kE_cX5_sum rfl rfl) (kBe kE_cX5_sum rfl rfl) kS8_1
theorem dX5_sum_25 : decode cX5_sum 25 = .ok (.goto (-21), 3) := kD167 (kBe kE_cX5_sum rfl rfl) (kBe kE_cX5_sum rfl rfl) (kBe kE_cX5_sum rfl rfl) kS16_255_235
theorem dX5_sum_28 : decode cX5_sum 28 = .ok (.lload_n 1, 1) := kD31 (kBe kE_cX5_sum rfl rfl)
theorem dX5_sum_29 : decode cX5_sum 29 = .ok (.lreturn, 1) := kD173 (kBe kE_cX5_sum rfl rfl)
theorem kE_cX5_reduce : kDc cX5_reduce 555012731561851985954426988171341950748854092894581822752843043591662818687904122516901330135488106266222962305457794462506265927569911859442826243 61 := by unfold kDc; decide +kernel
theorem dX5_reduce_0 : decode cX5_reduce 0 = .ok (.iconst 0, 1) := kD3 (kBe kE_cX5_reduce rfl rfl)
theorem dX5_reduce_1 : decode cX5_reduce 1 = .ok (.istore_n 1, 1) := kD60 (kBe kE_cX5_reduce rfl rfl)
theorem dX5_reduce_2 : decode cX5_reduce 2 = .ok (.iload_n 1, 1) := kD27 (kBe kE_cX5_reduce rfl rfl)
theorem dX5_reduce_3 : decode cX5_reduce 3 = .ok (.bipush 63, 2) := kD16 (kBe kE_cX5_reduce rfl rfl) (kBe kE_cX5_reduce rfl rfl) kS8_63
theorem dX5_reduce_5 : decode cX5_reduce 5 = .ok (.if_icmp .ge 55, 3) := kD162 (kBe kE_cX5_reduce rfl rfl) (kBe kE_cX5_reduce rfl rfl) (kBe kE_cX5_reduce rfl rfl) kS16_0_55
theorem dX5_reduce_8 : decode cX5_reduce 8 = .ok (.aload_n 0, 1) := kD42 (kBe kE_cX5_reduce rfl rfl)
theorem dX5_reduce_9 : decode cX5_reduce 9 = .ok (.getfield 19, 3) := kD180 (kBe kE_cX5_reduce rfl rfl) (kBe kE_cX5_reduce rfl rfl) (kBe kE_cX5_reduce rfl rfl)
theorem dX5_reduce_12 : decode cX5_reduce 12 = .ok (.lconst 1, 1) := kD10 (kBe kE_cX5_reduce rfl rfl)
theorem dX5_reduce_13 : decode cX5_reduce 13 = .ok (.lcmp, 1) := kD148 (kBe kE_cX5_reduce rfl rfl)
theorem dX5_reduce_14 : decode cX5_reduce 14 = .ok (.ifCond .le 46, 3) := kD158 (kBe kE_cX5_reduce rfl rfl) (kBe kE_cX5_reduce rfl rfl) (kBe kE_cX5_reduce rfl rfl) kS16_0_46
theorem dX5_reduce_17 : decode cX5_reduce 17 = .ok (.aload_n 0, 1) := kD42 (kBe kE_cX5_reduce rfl rfl)
theorem dX5_reduce_18 : decode cX5_reduce 18 = .ok (.getfield 15, 3) := kD180 (kBe kE_cX5_reduce rfl rfl) (kBe kE_cX5_reduce rfl rfl) (kBe kE_cX5_reduce rfl rfl)
theorem dX5_reduce_21 : decode cX5_reduce 21 = .ok (.ldc2_w 77, 3) := kD20 (kBe kE_cX5_reduce rfl rfl) (kBe kE_cX5_reduce rfl rfl) (kBe kE_cX5_reduce rfl rfl)
theorem dX5_reduce_24 : decode cX5_reduce 24 = .ok (.lrem, 1) := kD113 (kBe kE_cX5_reduce rfl rfl)
theorem dX5_reduce_25 : decode cX5_reduce 25 = .ok (.lconst 0, 1) := kD9 (kBe kE_cX5_reduce rfl rfl)
theorem dX5_reduce_26 : decode cX5_reduce 26 = .ok (.lcmp, 1) := kD148 (kBe kE_cX5_reduce rfl rfl)
theorem dX5_reduce_27 : decode cX5_reduce 27 = .ok (.ifCond .ne 33, 3) := kD154 (kBe kE_cX5_reduce rfl rfl) (kBe kE_cX5_reduce rfl rfl) (kBe kE_cX5_reduce rfl rfl) kS16_0_33
theorem dX5_reduce_30 : decode cX5_reduce 30 = .ok (.aload_n 0, 1) := kD42 (kBe kE_cX5_reduce rfl rfl)
theorem dX5_reduce_31 : decode cX5_reduce 31 = .ok (.dup, 1) := kD89 (kBe kE_cX5_reduce rfl rfl)
theorem dX5_reduce_32 : decode cX5_reduce 32 = .ok (.getfield 15, 3) := kD180 (kBe kE_cX5_reduce rfl rfl) (kBe kE_cX5_reduce rfl rfl) (kBe kE_cX5_reduce rfl rfl)
theorem dX5_reduce_35 : decode cX5_reduce 35 = .ok (.ldc2_w 77, 3) := kD20 (kBe kE_cX5_reduce rfl rfl) (kBe kE_cX5_reduce rfl rfl) (kBe kE_cX5_reduce rfl rfl)
theorem dX5_reduce_38 : decode cX5_reduce 38 = .ok (.ldiv, 1) := kD109 (kBe kE_cX5_reduce rfl rfl)
theorem dX5_reduce_39 : decode cX5_reduce 39 = .ok (.putfield 15, 3) := kD181 (kBe kE_cX5_reduce rfl rfl) (kBe kE_cX5_reduce rfl rfl) (kBe kE_cX5_reduce rfl rfl)
theorem dX5_reduce_42 : decode cX5_reduce 42 = .ok (.aload_n 0, 1) := kD42 (kBe kE_cX5_reduce rfl rfl)
theorem dX5_reduce_43 : decode cX5_reduce 43 = .ok (.dup, 1) := kD89 (kBe kE_cX5_reduce rfl rfl)
theorem dX5_reduce_44 : decode cX5_reduce 44 = .ok (.getfield 19, 3) := kD180 (kBe kE_cX5_reduce rfl rfl) (kBe kE_cX5_reduce rfl rfl) (kBe kE_cX5_reduce rfl rfl)
theorem dX5_reduce_47 : decode cX5_reduce 47 = .ok (.ldc2_w 77, 3) := kD20 (kBe kE_cX5_reduce rfl rfl) (kBe kE_cX5_reduce rfl rfl) (kBe kE_cX5_reduce rfl rfl)
theorem dX5_reduce_50 : decode cX5_reduce 50 = .ok (.ldiv, 1) := kD109 (kBe kE_cX5_reduce rfl rfl)
theorem dX5_reduce_51 : decode cX5_reduce 51 = .ok (.putfield 19, 3) := kD181 (kBe kE_cX5_reduce rfl rfl) (kBe kE_cX5_reduce rfl rfl) (kBe kE_cX5_reduce rfl rfl)
theorem dX5_reduce_54 : decode cX5_reduce 54 = .ok (.iinc 1 1, 3) := kD132 (kBe kE_cX5_reduce rfl rfl) (kBe kE_cX5_reduce rfl rfl) (kBe kE_cX5_reduce rfl rfl) kS8_1
theorem dX5_reduce_57 : decode cX5_reduce 57 = .ok (.goto (-55), 3) := kD167 (kBe kE_cX5_reduce rfl rfl) (kBe kE_cX5_reduce rfl rfl) (kBe kE_cX5_reduce rfl rfl) kS16_255_201
theorem dX5_reduce_60 : decode cX5_reduce 60 = .ok (.return_, 1) := kD177 (kBe kE_cX5_reduce rfl rfl)
theorem kE_cX6_init : kDc cX6_init 760226035498 5 := by unfold kDc; decide +kernel
theorem dX6_init_0 : decode cX6_init 0 = .ok (.aload_n 0, 1) := kD42 (kBe kE_cX6_init rfl rfl)
theorem dX6_init_1 : decode cX6_init 1 = .ok (.invokespecial 1, 3) := kD183 (kBe kE_cX6_init rfl rfl) (kBe kE_cX6_init rfl rfl) (kBe kE_cX6_init rfl rfl)
theorem dX6_init_4 : decode cX6_init 4 = .ok (.return_, 1) := kD177 (kBe kE_cX6_init rfl rfl)
theorem kE_cX6_draw : kDc cX6_draw 19917603359266511902154589097175760135345244499357710025368777845369357679923754 33 := by unfold kDc; decide +kernel
theorem dX6_draw_0 : decode cX6_draw 0 = .ok (.aload_n 0, 1) := kD42 (kBe kE_cX6_draw rfl rfl)
theorem dX6_draw_1 : decode cX6_draw 1 = .ok (.ldc 7, 2) := kD18 (kBe kE_cX6_draw rfl rfl) (kBe kE_cX6_draw rfl rfl)
theorem dX6_draw_3 : decode cX6_draw 3 = .ok (.aload_n 0, 1) := kD42 (kBe kE_cX6_draw rfl rfl)
theorem dX6_draw_4 : decode cX6_draw 4 = .ok (.getfield 8, 3) := kD180 (kBe kE_cX6_draw rfl rfl) (kBe kE_cX6_draw rfl rfl) (kBe kE_cX6_draw rfl rfl)
theorem dX6_draw_7 : decode cX6_draw 7 = .ok (.imul, 1) := kD104 (kBe kE_cX6_draw rfl rfl)
theorem dX6_draw_8 : decode cX6_draw 8 = .ok (.sipush 12345, 3) := kD17 (kBe kE_cX6_draw rfl rfl) (kBe kE_cX6_draw rfl rfl) (kBe kE_cX6_draw rfl rfl) kS16_48_57
theorem dX6_draw_11 : decode cX6_draw 11 = .ok (.iadd, 1) := kD96 (kBe kE_cX6_draw rfl rfl)
theorem dX6_draw_12 : decode cX6_draw 12 = .ok (.putfield 8, 3) := kD181 (kBe kE_cX6_draw rfl rfl) (kBe kE_cX6_draw rfl rfl) (kBe kE_cX6_draw rfl rfl)
theorem dX6_draw_15 : decode cX6_draw 15 = .ok (.iload_n 1, 1) := kD27 (kBe kE_cX6_draw rfl rfl)
theorem dX6_draw_16 : decode cX6_draw 16 = .ok (.ifCond .le 15, 3) := kD158 (kBe kE_cX6_draw rfl rfl) (kBe kE_cX6_draw rfl rfl) (kBe kE_cX6_draw rfl rfl) kS16_0_15
theorem dX6_draw_19 : decode cX6_draw 19 = .ok (.aload_n 0, 1) := kD42 (kBe kE_cX6_draw rfl rfl)
theorem dX6_draw_20 : decode cX6_draw 20 = .ok (.getfield 8, 3) := kD180 (kBe kE_cX6_draw rfl rfl) (kBe kE_cX6_draw rfl rfl) (kBe kE_cX6_draw rfl rfl)
theorem dX6_draw_23 : decode cX6_draw 23 = .ok (.bipush 16, 2) := kD16 (kBe kE_cX6_draw rfl rfl) (kBe kE_cX6_draw rfl rfl) kS8_16
theorem dX6_draw_25 : decode cX6_draw 25 = .ok (.iushr, 1) := kD124 (kBe kE_cX6_draw rfl rfl)
theorem dX6_draw_26 : decode cX6_draw 26 = .ok (.iload_n 1, 1) := kD27 (kBe kE_cX6_draw rfl rfl)
theorem dX6_draw_27 : decode cX6_draw 27 = .ok (.irem, 1) := kD112 (kBe kE_cX6_draw rfl rfl)
theorem dX6_draw_28 : decode cX6_draw 28 = .ok (.goto 4, 3) := kD167 (kBe kE_cX6_draw rfl rfl) (kBe kE_cX6_draw rfl rfl) (kBe kE_cX6_draw rfl rfl) kS16_0_4
theorem dX6_draw_31 : decode cX6_draw 31 = .ok (.iconst 0, 1) := kD3 (kBe kE_cX6_draw rfl rfl)
theorem dX6_draw_32 : decode cX6_draw 32 = .ok (.ireturn, 1) := kD172 (kBe kE_cX6_draw rfl rfl)
theorem kE_cX7_init : kDc cX7_init 49824372485460010 7 := by unfold kDc; decide +kernel
theorem dX7_init_0 : decode cX7_init 0 = .ok (.aload_n 0, 1) := kD42 (kBe kE_cX7_init rfl rfl)
theorem dX7_init_1 : decode cX7_init 1 = .ok (.bipush 39, 2) := kD16 (kBe kE_cX7_init rfl rfl) (kBe kE_cX7_init rfl rfl) kS8_39
theorem dX7_init_3 : decode cX7_init 3 = .ok (.invokespecial 3, 3) := kD183 (kBe kE_cX7_init rfl rfl) (kBe kE_cX7_init rfl rfl) (kBe kE_cX7_init rfl rfl)
theorem dX7_init_6 : decode cX7_init 6 = .ok (.return_, 1) := kD177 (kBe kE_cX7_init rfl rfl)
theorem kE_cX7_worth : kDc cX7_worth 4074788448211822034264391460013016343406317481546287659573628988256344378729996166841343080761860470349692007691869831039351089818835514076427151187904397398851041423639229515067148643901349618101549790603616129238123699428657179 95 := by unfold kDc; decide +kernel
theorem dX7_worth_0 : decode cX7_worth 0 = .ok (.iload_n 1, 1) := kD27 (kBe kE_cX7_worth rfl rfl)
theorem dX7_worth_1 : decode cX7_worth 1 = .ok (.iconst 5, 1) := kD8 (kBe kE_cX7_worth rfl rfl)
theorem dX7_worth_2 : decode cX7_worth 2 = .ok (.irem, 1) := kD112 (kBe kE_cX7_worth rfl rfl)
theorem dX7_worth_36 : decode cX7_worth 36 = .ok (.iload_n 2, 1) := kD28 (kBe kE_cX7_worth rfl rfl)
theorem dX7_worth_37 : decode cX7_worth 37 = .ok (.invokestatic 9, 3) := kD184 (kBe kE_cX7_worth rfl rfl) (kBe kE_cX7_worth rfl rfl) (kBe kE_cX7_worth rfl rfl)
theorem dX7_worth_40 : decode cX7_worth 40 = .ok (.ireturn, 1) := kD172 (kBe kE_cX7_worth rfl rfl)
theorem dX7_worth_41 : decode cX7_worth 41 = .ok (.iload_n 2, 1) := kD28 (kBe kE_cX7_worth rfl rfl)
theorem dX7_worth_42 : decode cX7_worth 42 = .ok (.bipush 97, 2) := kD16 (kBe kE_cX7_worth rfl rfl) (kBe kE_cX7_worth rfl rfl) kS8_97
theorem dX7_worth_44 : decode cX7_worth 44 = .ok (.if_icmp .lt 16, 3) := kD161 (kBe kE_cX7_worth rfl rfl) (kBe kE_cX7_worth rfl rfl) (kBe kE_cX7_worth rfl rfl) kS16_0_16
theorem dX7_worth_47 : decode cX7_worth 47 = .ok (.iload_n 2, 1) := kD28 (kBe kE_cX7_worth rfl rfl)
theorem dX7_worth_48 : decode cX7_worth 48 = .ok (.bipush 102, 2) := kD16 (kBe kE_cX7_worth rfl rfl) (kBe kE_cX7_worth rfl rfl) kS8_102
theorem dX7_worth_50 : decode cX7_worth 50 = .ok (.if_icmp .gt 10, 3) := kD163 (kBe kE_cX7_worth rfl rfl) (kBe kE_cX7_worth rfl rfl) (kBe kE_cX7_worth rfl rfl) kS16_0_10
theorem dX7_worth_53 : decode cX7_worth 53 = .ok (.iload_n 2, 1) := kD28 (kBe kE_cX7_worth rfl rfl)
theorem dX7_worth_54 : decode cX7_worth 54 = .ok (.bipush 97, 2) := kD16 (kBe kE_cX7_worth rfl rfl) (kBe kE_cX7_worth rfl rfl) kS8_97
theorem dX7_worth_56 : decode cX7_worth 56 = .ok (.isub, 1) := kD100 (kBe kE_cX7_worth rfl rfl)
theorem dX7_worth_57 : decode cX7_worth 57 = .ok (.goto 4, 3) := kD167 (kBe kE_cX7_worth rfl rfl) (kBe kE_cX7_worth rfl rfl) (kBe kE_cX7_worth rfl rfl) kS16_0_4
theorem dX7_worth_60 : decode cX7_worth 60 = .ok (.iconst (-1), 1) := kD2 (kBe kE_cX7_worth rfl rfl)
theorem dX7_worth_61 : decode cX7_worth 61 = .ok (.ireturn, 1) := kD172 (kBe kE_cX7_worth rfl rfl)
theorem dX7_worth_62 : decode cX7_worth 62 = .ok (.iload_n 2, 1) := kD28 (kBe kE_cX7_worth rfl rfl)
theorem dX7_worth_63 : decode cX7_worth 63 = .ok (.bipush 59, 2) := kD16 (kBe kE_cX7_worth rfl rfl) (kBe kE_cX7_worth rfl rfl) kS8_59
theorem dX7_worth_65 : decode cX7_worth 65 = .ok (.if_icmp .ne 7, 3) := kD160 (kBe kE_cX7_worth rfl rfl) (kBe kE_cX7_worth rfl rfl) (kBe kE_cX7_worth rfl rfl) kS16_0_7
theorem dX7_worth_68 : decode cX7_worth 68 = .ok (.iconst 0, 1) := kD3 (kBe kE_cX7_worth rfl rfl)
theorem dX7_worth_69 : decode cX7_worth 69 = .ok (.goto 4, 3) := kD167 (kBe kE_cX7_worth rfl rfl) (kBe kE_cX7_worth rfl rfl) (kBe kE_cX7_worth rfl rfl) kS16_0_4
theorem dX7_worth_72 : decode cX7_worth 72 = .ok (.iconst (-1), 1) := kD2 (kBe kE_cX7_worth rfl rfl)
theorem dX7_worth_73 : decode cX7_worth 73 = .ok (.ireturn, 1) := kD172 (kBe kE_cX7_worth rfl rfl)
theorem dX7_worth_74 : decode cX7_worth 74 = .ok (.iload_n 2, 1) := kD28 (kBe kE_cX7_worth rfl rfl)
theorem dX7_worth_75 : decode cX7_worth 75 = .ok (.bipush 49, 2) := kD16 (kBe kE_cX7_worth rfl rfl) (kBe kE_cX7_worth rfl rfl) kS8_49
theorem dX7_worth_77 : decode cX7_worth 77 = .ok (.if_icmp .lt 16, 3) := kD161 (kBe kE_cX7_worth rfl rfl) (kBe kE_cX7_worth rfl rfl) (kBe kE_cX7_worth rfl rfl) kS16_0_16
theorem dX7_worth_80 : decode cX7_worth 80 = .ok (.iload_n 2, 1) := kD28 (kBe kE_cX7_worth rfl rfl)
theorem dX7_worth_81 : decode cX7_worth 81 = .ok (.bipush 57, 2) := kD16 (kBe kE_cX7_worth rfl rfl) (kBe kE_cX7_worth rfl rfl) kS8_57
theorem dX7_worth_83 : decode cX7_worth 83 = .ok (.if_icmp .gt 10, 3) := kD163 (kBe kE_cX7_worth rfl rfl) (kBe kE_cX7_worth rfl rfl) (kBe kE_cX7_worth rfl rfl) kS16_0_10
theorem dX7_worth_86 : decode cX7_worth 86 = .ok (.iload_n 2, 1) := kD28 (kBe kE_cX7_worth rfl rfl)
theorem dX7_worth_87 : decode cX7_worth 87 = .ok (.bipush 48, 2) := kD16 (kBe kE_cX7_worth rfl rfl) (kBe kE_cX7_worth rfl rfl) kS8_48
theorem dX7_worth_89 : decode cX7_worth 89 = .ok (.isub, 1) := kD100 (kBe kE_cX7_worth rfl rfl)
theorem dX7_worth_90 : decode cX7_worth 90 = .ok (.goto 4, 3) := kD167 (kBe kE_cX7_worth rfl rfl) (kBe kE_cX7_worth rfl rfl) (kBe kE_cX7_worth rfl rfl) kS16_0_4
theorem dX7_worth_93 : decode cX7_worth 93 = .ok (.iconst (-1), 1) := kD2 (kBe kE_cX7_worth rfl rfl)
theorem dX7_worth_94 : decode cX7_worth 94 = .ok (.ireturn, 1) := kD172 (kBe kE_cX7_worth rfl rfl)
theorem kE_cX7_kind : kDc cX7_kind 7452001982461014356582545643427879746877210853962947734498486778673708041917006246936824124086164499861907907038634606384415550234 54 := by unfold kDc; decide +kernel
theorem dX7_kind_0 : decode cX7_kind 0 = .ok (.iload_n 0, 1) := kD26 (kBe kE_cX7_kind rfl rfl)
theorem dX7_kind_44 : decode cX7_kind 44 = .ok (.iconst 0, 1) := kD3 (kBe kE_cX7_kind rfl rfl)
theorem dX7_kind_45 : decode cX7_kind 45 = .ok (.ireturn, 1) := kD172 (kBe kE_cX7_kind rfl rfl)
theorem dX7_kind_46 : decode cX7_kind 46 = .ok (.iconst 1, 1) := kD4 (kBe kE_cX7_kind rfl rfl)
theorem dX7_kind_47 : decode cX7_kind 47 = .ok (.ireturn, 1) := kD172 (kBe kE_cX7_kind rfl rfl)
theorem dX7_kind_48 : decode cX7_kind 48 = .ok (.iconst 2, 1) := kD5 (kBe kE_cX7_kind rfl rfl)
theorem dX7_kind_49 : decode cX7_kind 49 = .ok (.ireturn, 1) := kD172 (kBe kE_cX7_kind rfl rfl)
theorem dX7_kind_50 : decode cX7_kind 50 = .ok (.iconst 3, 1) := kD6 (kBe kE_cX7_kind rfl rfl)
theorem dX7_kind_51 : decode cX7_kind 51 = .ok (.ireturn, 1) := kD172 (kBe kE_cX7_kind rfl rfl)
theorem dX7_kind_52 : decode cX7_kind 52 = .ok (.iconst (-1), 1) := kD2 (kBe kE_cX7_kind rfl rfl)
theorem dX7_kind_53 : decode cX7_kind 53 = .ok (.ireturn, 1) := kD172 (kBe kE_cX7_kind rfl rfl)
theorem kE_cX7_thingsIn : kDc cX7_thingsIn 16475081202886803398179408461570125981227063971401472539 23 := by unfold kDc; decide +kernel
theorem dX7_thingsIn_0 : decode cX7_thingsIn 0 = .ok (.iload_n 1, 1) := kD27 (kBe kE_cX7_thingsIn rfl rfl)
theorem dX7_thingsIn_1 : decode cX7_thingsIn 1 = .ok (.ifCond .ne 5, 3) := kD154 (kBe kE_cX7_thingsIn rfl rfl) (kBe kE_cX7_thingsIn rfl rfl) (kBe kE_cX7_thingsIn rfl rfl) kS16_0_5
theorem dX7_thingsIn_4 : decode cX7_thingsIn 4 = .ok (.iconst 0, 1) := kD3 (kBe kE_cX7_thingsIn rfl rfl)
theorem dX7_thingsIn_5 : decode cX7_thingsIn 5 = .ok (.ireturn, 1) := kD172 (kBe kE_cX7_thingsIn rfl rfl)
theorem dX7_thingsIn_6 : decode cX7_thingsIn 6 = .ok (.iload_n 1, 1) := kD27 (kBe kE_cX7_thingsIn rfl rfl)
theorem dX7_thingsIn_7 : decode cX7_thingsIn 7 = .ok (.iconst 5, 1) := kD8 (kBe kE_cX7_thingsIn rfl rfl)
theorem dX7_thingsIn_8 : decode cX7_thingsIn 8 = .ok (.irem, 1) := kD112 (kBe kE_cX7_thingsIn rfl rfl)
theorem dX7_thingsIn_9 : decode cX7_thingsIn 9 = .ok (.iconst 4, 1) := kD7 (kBe kE_cX7_thingsIn rfl rfl)
theorem dX7_thingsIn_10 : decode cX7_thingsIn 10 = .ok (.if_icmp .ne 11, 3) := kD160 (kBe kE_cX7_thingsIn rfl rfl) (kBe kE_cX7_thingsIn rfl rfl) (kBe kE_cX7_thingsIn rfl rfl) kS16_0_11
theorem dX7_thingsIn_13 : decode cX7_thingsIn 13 = .ok (.iload_n 1, 1) := kD27 (kBe kE_cX7_thingsIn rfl rfl)
theorem dX7_thingsIn_14 : decode cX7_thingsIn 14 = .ok (.iconst 1, 1) := kD4 (kBe kE_cX7_thingsIn rfl rfl)
theorem dX7_thingsIn_15 : decode cX7_thingsIn 15 = .ok (.iadd, 1) := kD96 (kBe kE_cX7_thingsIn rfl rfl)
theorem dX7_thingsIn_16 : decode cX7_thingsIn 16 = .ok (.iconst 5, 1) := kD8 (kBe kE_cX7_thingsIn rfl rfl)
theorem dX7_thingsIn_17 : decode cX7_thingsIn 17 = .ok (.idiv, 1) := kD108 (kBe kE_cX7_thingsIn rfl rfl)
theorem dX7_thingsIn_18 : decode cX7_thingsIn 18 = .ok (.goto 4, 3) := kD167 (kBe kE_cX7_thingsIn rfl rfl) (kBe kE_cX7_thingsIn rfl rfl) (kBe kE_cX7_thingsIn rfl rfl) kS16_0_4
theorem dX7_thingsIn_21 : decode cX7_thingsIn 21 = .ok (.iconst (-1), 1) := kD2 (kBe kE_cX7_thingsIn rfl rfl)
theorem dX7_thingsIn_22 : decode cX7_thingsIn 22 = .ok (.ireturn, 1) := kD172 (kBe kE_cX7_thingsIn rfl rfl)
theorem kE_cX7_told : kDc cX7_told 812523787548805503322154 10 := by unfold kDc; decide +kernel
theorem dX7_told_0 : decode cX7_told 0 = .ok (.aload_n 0, 1) := kD42 (kBe kE_cX7_told rfl rfl)
theorem dX7_told_1 : decode cX7_told 1 = .ok (.iconst 5, 1) := kD8 (kBe kE_cX7_told rfl rfl)
theorem dX7_told_2 : decode cX7_told 2 = .ok (.iload_n 1, 1) := kD27 (kBe kE_cX7_told rfl rfl)
theorem dX7_told_3 : decode cX7_told 3 = .ok (.imul, 1) := kD104 (kBe kE_cX7_told rfl rfl)
theorem dX7_told_4 : decode cX7_told 4 = .ok (.iload_n 2, 1) := kD28 (kBe kE_cX7_told rfl rfl)
theorem dX7_told_5 : decode cX7_told 5 = .ok (.iadd, 1) := kD96 (kBe kE_cX7_told rfl rfl)
theorem dX7_told_6 : decode cX7_told 6 = .ok (.invokevirtual 15, 3) := kD182 (kBe kE_cX7_told rfl rfl) (kBe kE_cX7_told rfl rfl) (kBe kE_cX7_told rfl rfl)
theorem dX7_told_9 : decode cX7_told 9 = .ok (.ireturn, 1) := kD172 (kBe kE_cX7_told rfl rfl)
theorem kE_cX8_init : kDc cX8_init 15423979785315569135668422135634022920927018 18 := by unfold kDc; decide +kernel
theorem dX8_init_0 : decode cX8_init 0 = .ok (.aload_n 0, 1) := kD42 (kBe kE_cX8_init rfl rfl)
theorem dX8_init_1 : decode cX8_init 1 = .ok (.invokespecial 3, 3) := kD183 (kBe kE_cX8_init rfl rfl) (kBe kE_cX8_init rfl rfl) (kBe kE_cX8_init rfl rfl)
theorem dX8_init_4 : decode cX8_init 4 = .ok (.aload_n 0, 1) := kD42 (kBe kE_cX8_init rfl rfl)
theorem dX8_init_5 : decode cX8_init 5 = .ok (.bipush 60, 2) := kD16 (kBe kE_cX8_init rfl rfl) (kBe kE_cX8_init rfl rfl) kS8_60
theorem dX8_init_7 : decode cX8_init 7 = .ok (.newarray .int, 2) := kD188_10 (kBe kE_cX8_init rfl rfl) (kBe kE_cX8_init rfl rfl)
theorem dX8_init_9 : decode cX8_init 9 = .ok (.putfield 9, 3) := kD181 (kBe kE_cX8_init rfl rfl) (kBe kE_cX8_init rfl rfl) (kBe kE_cX8_init rfl rfl)
theorem dX8_init_12 : decode cX8_init 12 = .ok (.aload_n 0, 1) := kD42 (kBe kE_cX8_init rfl rfl)
theorem dX8_init_13 : decode cX8_init 13 = .ok (.iconst 1, 1) := kD4 (kBe kE_cX8_init rfl rfl)
theorem dX8_init_14 : decode cX8_init 14 = .ok (.putfield 15, 3) := kD181 (kBe kE_cX8_init rfl rfl) (kBe kE_cX8_init rfl rfl) (kBe kE_cX8_init rfl rfl)
theorem dX8_init_17 : decode cX8_init 17 = .ok (.return_, 1) := kD177 (kBe kE_cX8_init rfl rfl)
theorem kE_cX8_renew : kDc cX8_renew 417902957358757106495423746375182338556021165603647607259789337045161867880528383902188584409731430264557863722 46 := by unfold kDc; decide +kernel
theorem dX8_renew_0 : decode cX8_renew 0 = .ok (.aload_n 0, 1) := kD42 (kBe kE_cX8_renew rfl rfl)
theorem dX8_renew_1 : decode cX8_renew 1 = .ok (.iconst 0, 1) := kD3 (kBe kE_cX8_renew rfl rfl)
theorem dX8_renew_2 : decode cX8_renew 2 = .ok (.putfield 15, 3) := kD181 (kBe kE_cX8_renew rfl rfl) (kBe kE_cX8_renew rfl rfl) (kBe kE_cX8_renew rfl rfl)
theorem dX8_renew_5 : decode cX8_renew 5 = .ok (.aload_n 0, 1) := kD42 (kBe kE_cX8_renew rfl rfl)
theorem dX8_renew_6 : decode cX8_renew 6 = .ok (.iload_n 1, 1) := kD27 (kBe kE_cX8_renew rfl rfl)
theorem dX8_renew_7 : decode cX8_renew 7 = .ok (.putfield 19, 3) := kD181 (kBe kE_cX8_renew rfl rfl) (kBe kE_cX8_renew rfl rfl) (kBe kE_cX8_renew rfl rfl)
theorem dX8_renew_10 : decode cX8_renew 10 = .ok (.aload_n 0, 1) := kD42 (kBe kE_cX8_renew rfl rfl)
theorem dX8_renew_11 : decode cX8_renew 11 = .ok (.iconst 0, 1) := kD3 (kBe kE_cX8_renew rfl rfl)
theorem dX8_renew_12 : decode cX8_renew 12 = .ok (.iload_n 2, 1) := kD28 (kBe kE_cX8_renew rfl rfl)
theorem dX8_renew_13 : decode cX8_renew 13 = .ok (.bipush 60, 2) := kD16 (kBe kE_cX8_renew rfl rfl) (kBe kE_cX8_renew rfl rfl) kS8_60
theorem dX8_renew_15 : decode cX8_renew 15 = .ok (.invokestatic 23, 3) := kD184 (kBe kE_cX8_renew rfl rfl) (kBe kE_cX8_renew rfl rfl) (kBe kE_cX8_renew rfl rfl)
theorem dX8_renew_18 : decode cX8_renew 18 = .ok (.invokestatic 29, 3) := kD184 (kBe kE_cX8_renew rfl rfl) (kBe kE_cX8_renew rfl rfl) (kBe kE_cX8_renew rfl rfl)
theorem dX8_renew_21 : decode cX8_renew 21 = .ok (.putfield 32, 3) := kD181 (kBe kE_cX8_renew rfl rfl) (kBe kE_cX8_renew rfl rfl) (kBe kE_cX8_renew rfl rfl)
theorem dX8_renew_24 : decode cX8_renew 24 = .ok (.iconst 0, 1) := kD3 (kBe kE_cX8_renew rfl rfl)
theorem dX8_renew_25 : decode cX8_renew 25 = .ok (.istore_n 3, 1) := kD62 (kBe kE_cX8_renew rfl rfl)
theorem dX8_renew_26 : decode cX8_renew 26 = .ok (.iload_n 3, 1) := kD29 (kBe kE_cX8_renew rfl rfl)
theorem dX8_renew_27 : decode cX8_renew 27 = .ok (.bipush 60, 2) := kD16 (kBe kE_cX8_renew rfl rfl) (kBe kE_cX8_renew rfl rfl) kS8_60
theorem dX8_renew_29 : decode cX8_renew 29 = .ok (.if_icmp .ge 16, 3) := kD162 (kBe kE_cX8_renew rfl rfl) (kBe kE_cX8_renew rfl rfl) (kBe kE_cX8_renew rfl rfl) kS16_0_16
theorem dX8_renew_32 : decode cX8_renew 32 = .ok (.aload_n 0, 1) := kD42 (kBe kE_cX8_renew rfl rfl)
theorem dX8_renew_33 : decode cX8_renew 33 = .ok (.getfield 9, 3) := kD180 (kBe kE_cX8_renew rfl rfl) (kBe kE_cX8_renew rfl rfl) (kBe kE_cX8_renew rfl rfl)
theorem dX8_renew_36 : decode cX8_renew 36 = .ok (.iload_n 3, 1) := kD29 (kBe kE_cX8_renew rfl rfl)
theorem dX8_renew_37 : decode cX8_renew 37 = .ok (.iconst 0, 1) := kD3 (kBe kE_cX8_renew rfl rfl)
theorem dX8_renew_38 : decode cX8_renew 38 = .ok (.iastore, 1) := kD79 (kBe kE_cX8_renew rfl rfl)
theorem dX8_renew_39 : decode cX8_renew 39 = .ok (.iinc 3 1, 3) := kD132 (kBe kE_cX8_renew rfl rfl) (kBe kE_cX8_renew rfl rfl) (kBe kE_cX8_renew rfl rfl) kS8_1
theorem dX8_renew_42 : decode cX8_renew 42 = .ok (.goto (-16), 3) := kD167 (kBe kE_cX8_renew rfl rfl) (kBe kE_cX8_renew rfl rfl) (kBe kE_cX8_renew rfl rfl) kS16_255_240
theorem dX8_renew_45 : decode cX8_renew 45 = .ok (.return_, 1) := kD177 (kBe kE_cX8_renew rfl rfl)
theorem kE_cX8_hasItems : kDc cX8_hasItems 77803138122090350581234673372288716871181517658968744238149777832540496763675 32 := by unfold kDc; decide +kernel
theorem dX8_hasItems_0 : decode cX8_hasItems 0 = .ok (.iload_n 1, 1) := kD27 (kBe kE_cX8_hasItems rfl rfl)
theorem dX8_hasItems_1 : decode cX8_hasItems 1 = .ok (.ifCond .lt 29, 3) := kD155 (kBe kE_cX8_hasItems rfl rfl) (kBe kE_cX8_hasItems rfl rfl) (kBe kE_cX8_hasItems rfl rfl) kS16_0_29
theorem dX8_hasItems_4 : decode cX8_hasItems 4 = .ok (.iload_n 2, 1) := kD28 (kBe kE_cX8_hasItems rfl rfl)
theorem dX8_hasItems_5 : decode cX8_hasItems 5 = .ok (.ifCond .lt 25, 3) := kD155 (kBe kE_cX8_hasItems rfl rfl) (kBe kE_cX8_hasItems rfl rfl) (kBe kE_cX8_hasItems rfl rfl) kS16_0_25
theorem dX8_hasItems_8 : decode cX8_hasItems 8 = .ok (.iload_n 2, 1) := kD28 (kBe kE_cX8_hasItems rfl rfl)
theorem dX8_hasItems_9 : decode cX8_hasItems 9 = .ok (.aload_n 0, 1) := kD42 (kBe kE_cX8_hasItems rfl rfl)
theorem dX8_hasItems_10 : decode cX8_hasItems 10 = .ok (.getfield 32, 3) := kD180 (kBe kE_cX8_hasItems rfl rfl) (kBe kE_cX8_hasItems rfl rfl) (kBe kE_cX8_hasItems rfl rfl)
theorem dX8_hasItems_13 : decode cX8_hasItems 13 = .ok (.if_icmp .gt 17, 3) := kD163 (kBe kE_cX8_hasItems rfl rfl) (kBe kE_cX8_hasItems rfl rfl) (kBe kE_cX8_hasItems rfl rfl) kS16_0_17
theorem dX8_hasItems_16 : decode cX8_hasItems 16 = .ok (.iload_n 1, 1) := kD27 (kBe kE_cX8_hasItems rfl rfl)
theorem dX8_hasItems_17 : decode cX8_hasItems 17 = .ok (.aload_n 0, 1) := kD42 (kBe kE_cX8_hasItems rfl rfl)
theorem dX8_hasItems_18 : decode cX8_hasItems 18 = .ok (.getfield 32, 3) := kD180 (kBe kE_cX8_hasItems rfl rfl) (kBe kE_cX8_hasItems rfl rfl) (kBe kE_cX8_hasItems rfl rfl)
theorem dX8_hasItems_21 : decode cX8_hasItems 21 = .ok (.iload_n 2, 1) := kD28 (kBe kE_cX8_hasItems rfl rfl)
theorem dX8_hasItems_22 : decode cX8_hasItems 22 = .ok (.isub, 1) := kD100 (kBe kE_cX8_hasItems rfl rfl)
theorem dX8_hasItems_23 : decode cX8_hasItems 23 = .ok (.if_icmp .gt 7, 3) := kD163 (kBe kE_cX8_hasItems rfl rfl) (kBe kE_cX8_hasItems rfl rfl) (kBe kE_cX8_hasItems rfl rfl) kS16_0_7
theorem dX8_hasItems_26 : decode cX8_hasItems 26 = .ok (.iconst 1, 1) := kD4 (kBe kE_cX8_hasItems rfl rfl)
theorem dX8_hasItems_27 : decode cX8_hasItems 27 = .ok (.goto 4, 3) := kD167 (kBe kE_cX8_hasItems rfl rfl) (kBe kE_cX8_hasItems rfl rfl) (kBe kE_cX8_hasItems rfl rfl) kS16_0_4
theorem dX8_hasItems_30 : decode cX8_hasItems 30 = .ok (.iconst 0, 1) := kD3 (kBe kE_cX8_hasItems rfl rfl)
theorem dX8_hasItems_31 : decode cX8_hasItems 31 = .ok (.ireturn, 1) := kD172 (kBe kE_cX8_hasItems rfl rfl)
theorem kE_cX8_item : kDc cX8_item 16475455347300565497303171814967715343902054309219572507 23 := by unfold kDc; decide +kernel
theorem dX8_item_0 : decode cX8_item 0 = .ok (.iload_n 1, 1) := kD27 (kBe kE_cX8_item rfl rfl)
theorem dX8_item_1 : decode cX8_item 1 = .ok (.ifCond .lt 20, 3) := kD155 (kBe kE_cX8_item rfl rfl) (kBe kE_cX8_item rfl rfl) (kBe kE_cX8_item rfl rfl) kS16_0_20
theorem dX8_item_4 : decode cX8_item 4 = .ok (.iload_n 1, 1) := kD27 (kBe kE_cX8_item rfl rfl)
theorem dX8_item_5 : decode cX8_item 5 = .ok (.aload_n 0, 1) := kD42 (kBe kE_cX8_item rfl rfl)
theorem dX8_item_6 : decode cX8_item 6 = .ok (.getfield 32, 3) := kD180 (kBe kE_cX8_item rfl rfl) (kBe kE_cX8_item rfl rfl) (kBe kE_cX8_item rfl rfl)
theorem dX8_item_9 : decode cX8_item 9 = .ok (.if_icmp .ge 12, 3) := kD162 (kBe kE_cX8_item rfl rfl) (kBe kE_cX8_item rfl rfl) (kBe kE_cX8_item rfl rfl) kS16_0_12
theorem dX8_item_12 : decode cX8_item 12 = .ok (.aload_n 0, 1) := kD42 (kBe kE_cX8_item rfl rfl)
theorem dX8_item_13 : decode cX8_item 13 = .ok (.getfield 9, 3) := kD180 (kBe kE_cX8_item rfl rfl) (kBe kE_cX8_item rfl rfl) (kBe kE_cX8_item rfl rfl)
theorem dX8_item_16 : decode cX8_item 16 = .ok (.iload_n 1, 1) := kD27 (kBe kE_cX8_item rfl rfl)
theorem dX8_item_17 : decode cX8_item 17 = .ok (.iaload, 1) := kD46 (kBe kE_cX8_item rfl rfl)
theorem dX8_item_18 : decode cX8_item 18 = .ok (.goto 4, 3) := kD167 (kBe kE_cX8_item rfl rfl) (kBe kE_cX8_item rfl rfl) (kBe kE_cX8_item rfl rfl) kS16_0_4
theorem dX8_item_21 : decode cX8_item 21 = .ok (.iconst 0, 1) := kD3 (kBe kE_cX8_item rfl rfl)
theorem dX8_item_22 : decode cX8_item 22 = .ok (.ireturn, 1) := kD172 (kBe kE_cX8_item rfl rfl)
theorem kE_cX8_put : kDc cX8_put 1626631979217031103153359329476304622957031556984916830440285613535917034754557910976160708992415198066285339 45 := by unfold kDc; decide +kernel
theorem dX8_put_0 : decode cX8_put 0 = .ok (.iload_n 1, 1) := kD27 (kBe kE_cX8_put rfl rfl)
theorem dX8_put_1 : decode cX8_put 1 = .ok (.ifCond .lt 43, 3) := kD155 (kBe kE_cX8_put rfl rfl) (kBe kE_cX8_put rfl rfl) (kBe kE_cX8_put rfl rfl) kS16_0_43
theorem dX8_put_4 : decode cX8_put 4 = .ok (.iload_n 1, 1) := kD27 (kBe kE_cX8_put rfl rfl)
theorem dX8_put_5 : decode cX8_put 5 = .ok (.aload_n 0, 1) := kD42 (kBe kE_cX8_put rfl rfl)
theorem dX8_put_6 : decode cX8_put 6 = .ok (.getfield 32, 3) := kD180 (kBe kE_cX8_put rfl rfl) (kBe kE_cX8_put rfl rfl) (kBe kE_cX8_put rfl rfl)
theorem dX8_put_9 : decode cX8_put 9 = .ok (.if_icmp .ge 35, 3) := kD162 (kBe kE_cX8_put rfl rfl) (kBe kE_cX8_put rfl rfl) (kBe kE_cX8_put rfl rfl) kS16_0_35
theorem dX8_put_12 : decode cX8_put 12 = .ok (.aload_n 0, 1) := kD42 (kBe kE_cX8_put rfl rfl)
theorem dX8_put_13 : decode cX8_put 13 = .ok (.getfield 9, 3) := kD180 (kBe kE_cX8_put rfl rfl) (kBe kE_cX8_put rfl rfl) (kBe kE_cX8_put rfl rfl)
theorem dX8_put_16 : decode cX8_put 16 = .ok (.iload_n 1, 1) := kD27 (kBe kE_cX8_put rfl rfl)
theorem dX8_put_17 : decode cX8_put 17 = .ok (.aload_n 0, 1) := kD42 (kBe kE_cX8_put rfl rfl)
theorem dX8_put_18 : decode cX8_put 18 = .ok (.getfield 19, 3) := kD180 (kBe kE_cX8_put rfl rfl) (kBe kE_cX8_put rfl rfl) (kBe kE_cX8_put rfl rfl)
theorem dX8_put_21 : decode cX8_put 21 = .ok (.ifCond .ne 8, 3) := kD154 (kBe kE_cX8_put rfl rfl) (kBe kE_cX8_put rfl rfl) (kBe kE_cX8_put rfl rfl) kS16_0_8
theorem dX8_put_24 : decode cX8_put 24 = .ok (.iload_n 2, 1) := kD28 (kBe kE_cX8_put rfl rfl)
theorem dX8_put_25 : decode cX8_put 25 = .ok (.i2b, 1) := kD145 (kBe kE_cX8_put rfl rfl)
theorem dX8_put_26 : decode cX8_put 26 = .ok (.goto 17, 3) := kD167 (kBe kE_cX8_put rfl rfl) (kBe kE_cX8_put rfl rfl) (kBe kE_cX8_put rfl rfl) kS16_0_17
theorem dX8_put_29 : decode cX8_put 29 = .ok (.aload_n 0, 1) := kD42 (kBe kE_cX8_put rfl rfl)
theorem dX8_put_30 : decode cX8_put 30 = .ok (.getfield 19, 3) := kD180 (kBe kE_cX8_put rfl rfl) (kBe kE_cX8_put rfl rfl) (kBe kE_cX8_put rfl rfl)
theorem dX8_put_33 : decode cX8_put 33 = .ok (.iconst 1, 1) := kD4 (kBe kE_cX8_put rfl rfl)
theorem dX8_put_34 : decode cX8_put 34 = .ok (.if_icmp .ne 8, 3) := kD160 (kBe kE_cX8_put rfl rfl) (kBe kE_cX8_put rfl rfl) (kBe kE_cX8_put rfl rfl) kS16_0_8
theorem dX8_put_37 : decode cX8_put 37 = .ok (.iload_n 2, 1) := kD28 (kBe kE_cX8_put rfl rfl)
theorem dX8_put_38 : decode cX8_put 38 = .ok (.i2s, 1) := kD147 (kBe kE_cX8_put rfl rfl)
theorem dX8_put_39 : decode cX8_put 39 = .ok (.goto 4, 3) := kD167 (kBe kE_cX8_put rfl rfl) (kBe kE_cX8_put rfl rfl) (kBe kE_cX8_put rfl rfl) kS16_0_4
theorem dX8_put_42 : decode cX8_put 42 = .ok (.iload_n 2, 1) := kD28 (kBe kE_cX8_put rfl rfl)
theorem dX8_put_43 : decode cX8_put 43 = .ok (.iastore, 1) := kD79 (kBe kE_cX8_put rfl rfl)
theorem dX8_put_44 : decode cX8_put 44 = .ok (.return_, 1) := kD177 (kBe kE_cX8_put rfl rfl)
theorem kE_cX9_init : kDc cX9_init 258805694384733667232121923115468488992557293942570 21 := by unfold kDc; decide +kernel
theorem dX9_init_0 : decode cX9_init 0 = .ok (.aload_n 0, 1) := kD42 (kBe kE_cX9_init rfl rfl)
theorem dX9_init_1 : decode cX9_init 1 = .ok (.invokespecial 3, 3) := kD183 (kBe kE_cX9_init rfl rfl) (kBe kE_cX9_init rfl rfl) (kBe kE_cX9_init rfl rfl)
theorem dX9_init_4 : decode cX9_init 4 = .ok (.aload_n 0, 1) := kD42 (kBe kE_cX9_init rfl rfl)
theorem dX9_init_5 : decode cX9_init 5 = .ok (.iconst (-1), 1) := kD2 (kBe kE_cX9_init rfl rfl)
theorem dX9_init_6 : decode cX9_init 6 = .ok (.putfield 9, 3) := kD181 (kBe kE_cX9_init rfl rfl) (kBe kE_cX9_init rfl rfl) (kBe kE_cX9_init rfl rfl)
theorem dX9_init_9 : decode cX9_init 9 = .ok (.aload_n 0, 1) := kD42 (kBe kE_cX9_init rfl rfl)
theorem dX9_init_10 : decode cX9_init 10 = .ok (.iconst 0, 1) := kD3 (kBe kE_cX9_init rfl rfl)
theorem dX9_init_11 : decode cX9_init 11 = .ok (.iload_n 1, 1) := kD27 (kBe kE_cX9_init rfl rfl)
theorem dX9_init_12 : decode cX9_init 12 = .ok (.invokestatic 15, 3) := kD184 (kBe kE_cX9_init rfl rfl) (kBe kE_cX9_init rfl rfl) (kBe kE_cX9_init rfl rfl)
theorem dX9_init_15 : decode cX9_init 15 = .ok (.newarray .int, 2) := kD188_10 (kBe kE_cX9_init rfl rfl) (kBe kE_cX9_init rfl rfl)
theorem dX9_init_17 : decode cX9_init 17 = .ok (.putfield 21, 3) := kD181 (kBe kE_cX9_init rfl rfl) (kBe kE_cX9_init rfl rfl) (kBe kE_cX9_init rfl rfl)
theorem dX9_init_20 : decode cX9_init 20 = .ok (.return_, 1) := kD177 (kBe kE_cX9_init rfl rfl)
theorem kE_cX9_isFull : kDc cX9_isFull 14984339347662989861891954619574785918678058 18 := by unfold kDc; decide +kernel
theorem dX9_isFull_0 : decode cX9_isFull 0 = .ok (.aload_n 0, 1) := kD42 (kBe kE_cX9_isFull rfl rfl)
theorem dX9_isFull_1 : decode cX9_isFull 1 = .ok (.getfield 25, 3) := kD180 (kBe kE_cX9_isFull rfl rfl) (kBe kE_cX9_isFull rfl rfl) (kBe kE_cX9_isFull rfl rfl)
theorem dX9_isFull_4 : decode cX9_isFull 4 = .ok (.aload_n 0, 1) := kD42 (kBe kE_cX9_isFull rfl rfl)
theorem dX9_isFull_5 : decode cX9_isFull 5 = .ok (.getfield 21, 3) := kD180 (kBe kE_cX9_isFull rfl rfl) (kBe kE_cX9_isFull rfl rfl) (kBe kE_cX9_isFull rfl rfl)
theorem dX9_isFull_8 : decode cX9_isFull 8 = .ok (.arraylength, 1) := kD190 (kBe kE_cX9_isFull rfl rfl)
theorem dX9_isFull_9 : decode cX9_isFull 9 = .ok (.if_icmp .lt 7, 3) := kD161 (kBe kE_cX9_isFull rfl rfl) (kBe kE_cX9_isFull rfl rfl) (kBe kE_cX9_isFull rfl rfl) kS16_0_7
theorem dX9_isFull_12 : decode cX9_isFull 12 = .ok (.iconst 1, 1) := kD4 (kBe kE_cX9_isFull rfl rfl)
theorem dX9_isFull_13 : decode cX9_isFull 13 = .ok (.goto 4, 3) := kD167 (kBe kE_cX9_isFull rfl rfl) (kBe kE_cX9_isFull rfl rfl) (kBe kE_cX9_isFull rfl rfl) kS16_0_4
theorem dX9_isFull_16 : decode cX9_isFull 16 = .ok (.iconst 0, 1) := kD3 (kBe kE_cX9_isFull rfl rfl)
theorem dX9_isFull_17 : decode cX9_isFull 17 = .ok (.ireturn, 1) := kD172 (kBe kE_cX9_isFull rfl rfl)
theorem kE_cX9_append : kDc cX9_append 117086963399739247902623100938145116365071115807387269925327620463576291483040426063221924829440472577600085428645772507788330 52 := by unfold kDc; decide +kernel
theorem dX9_append_0 : decode cX9_append 0 = .ok (.aload_n 0, 1) := kD42 (kBe kE_cX9_append rfl rfl)
theorem dX9_append_1 : decode cX9_append 1 = .ok (.getfield 25, 3) := kD180 (kBe kE_cX9_append rfl rfl) (kBe kE_cX9_append rfl rfl) (kBe kE_cX9_append rfl rfl)
theorem dX9_append_4 : decode cX9_append 4 = .ok (.ifCond .lt 47, 3) := kD155 (kBe kE_cX9_append rfl rfl) (kBe kE_cX9_append rfl rfl) (kBe kE_cX9_append rfl rfl) kS16_0_47
theorem dX9_append_7 : decode cX9_append 7 = .ok (.aload_n 0, 1) := kD42 (kBe kE_cX9_append rfl rfl)
theorem dX9_append_8 : decode cX9_append 8 = .ok (.getfield 25, 3) := kD180 (kBe kE_cX9_append rfl rfl) (kBe kE_cX9_append rfl rfl) (kBe kE_cX9_append rfl rfl)
theorem dX9_append_11 : decode cX9_append 11 = .ok (.aload_n 0, 1) := kD42 (kBe kE_cX9_append rfl rfl)
theorem dX9_append_12 : decode cX9_append 12 = .ok (.getfield 21, 3) := kD180 (kBe kE_cX9_append rfl rfl) (kBe kE_cX9_append rfl rfl) (kBe kE_cX9_append rfl rfl)
theorem dX9_append_15 : decode cX9_append 15 = .ok (.arraylength, 1) := kD190 (kBe kE_cX9_append rfl rfl)
theorem dX9_append_16 : decode cX9_append 16 = .ok (.if_icmp .ge 35, 3) := kD162 (kBe kE_cX9_append rfl rfl) (kBe kE_cX9_append rfl rfl) (kBe kE_cX9_append rfl rfl) kS16_0_35
theorem dX9_append_19 : decode cX9_append 19 = .ok (.aload_n 0, 1) := kD42 (kBe kE_cX9_append rfl rfl)
theorem dX9_append_20 : decode cX9_append 20 = .ok (.getfield 21, 3) := kD180 (kBe kE_cX9_append rfl rfl) (kBe kE_cX9_append rfl rfl) (kBe kE_cX9_append rfl rfl)
theorem dX9_append_23 : decode cX9_append 23 = .ok (.aload_n 0, 1) := kD42 (kBe kE_cX9_append rfl rfl)
theorem dX9_append_24 : decode cX9_append 24 = .ok (.getfield 25, 3) := kD180 (kBe kE_cX9_append rfl rfl) (kBe kE_cX9_append rfl rfl) (kBe kE_cX9_append rfl rfl)
theorem dX9_append_27 : decode cX9_append 27 = .ok (.aload_n 0, 1) := kD42 (kBe kE_cX9_append rfl rfl)
theorem dX9_append_28 : decode cX9_append 28 = .ok (.aload_n 0, 1) := kD42 (kBe kE_cX9_append rfl rfl)
theorem dX9_append_29 : decode cX9_append 29 = .ok (.getfield 25, 3) := kD180 (kBe kE_cX9_append rfl rfl) (kBe kE_cX9_append rfl rfl) (kBe kE_cX9_append rfl rfl)
theorem dX9_append_32 : decode cX9_append 32 = .ok (.iload_n 1, 1) := kD27 (kBe kE_cX9_append rfl rfl)
theorem dX9_append_33 : decode cX9_append 33 = .ok (.invokevirtual 28, 3) := kD182 (kBe kE_cX9_append rfl rfl) (kBe kE_cX9_append rfl rfl) (kBe kE_cX9_append rfl rfl)
theorem dX9_append_36 : decode cX9_append 36 = .ok (.iastore, 1) := kD79 (kBe kE_cX9_append rfl rfl)
theorem dX9_append_37 : decode cX9_append 37 = .ok (.aload_n 0, 1) := kD42 (kBe kE_cX9_append rfl rfl)
theorem dX9_append_38 : decode cX9_append 38 = .ok (.dup, 1) := kD89 (kBe kE_cX9_append rfl rfl)
theorem dX9_append_39 : decode cX9_append 39 = .ok (.getfield 25, 3) := kD180 (kBe kE_cX9_append rfl rfl) (kBe kE_cX9_append rfl rfl) (kBe kE_cX9_append rfl rfl)
theorem dX9_append_42 : decode cX9_append 42 = .ok (.iconst 1, 1) := kD4 (kBe kE_cX9_append rfl rfl)
theorem dX9_append_43 : decode cX9_append 43 = .ok (.iadd, 1) := kD96 (kBe kE_cX9_append rfl rfl)
theorem dX9_append_44 : decode cX9_append 44 = .ok (.putfield 25, 3) := kD181 (kBe kE_cX9_append rfl rfl) (kBe kE_cX9_append rfl rfl) (kBe kE_cX9_append rfl rfl)
theorem dX9_append_47 : decode cX9_append 47 = .ok (.aload_n 0, 1) := kD42 (kBe kE_cX9_append rfl rfl)
theorem dX9_append_48 : decode cX9_append 48 = .ok (.invokevirtual 31, 3) := kD182 (kBe kE_cX9_append rfl rfl) (kBe kE_cX9_append rfl rfl) (kBe kE_cX9_append rfl rfl)
theorem dX9_append_51 : decode cX9_append 51 = .ok (.return_, 1) := kD177 (kBe kE_cX9_append rfl rfl)
theorem kE_cX9_shorten : kDc cX9_shorten 258862784390226488910547154200418716968240224600874 21 := by unfold kDc; decide +kernel
theorem dX9_shorten_0 : decode cX9_shorten 0 = .ok (.aload_n 0, 1) := kD42 (kBe kE_cX9_shorten rfl rfl)
theorem dX9_shorten_1 : decode cX9_shorten 1 = .ok (.iconst 0, 1) := kD3 (kBe kE_cX9_shorten rfl rfl)
theorem dX9_shorten_2 : decode cX9_shorten 2 = .ok (.iload_n 1, 1) := kD27 (kBe kE_cX9_shorten rfl rfl)
theorem dX9_shorten_3 : decode cX9_shorten 3 = .ok (.aload_n 0, 1) := kD42 (kBe kE_cX9_shorten rfl rfl)
theorem dX9_shorten_4 : decode cX9_shorten 4 = .ok (.getfield 25, 3) := kD180 (kBe kE_cX9_shorten rfl rfl) (kBe kE_cX9_shorten rfl rfl) (kBe kE_cX9_shorten rfl rfl)
theorem dX9_shorten_7 : decode cX9_shorten 7 = .ok (.invokestatic 34, 3) := kD184 (kBe kE_cX9_shorten rfl rfl) (kBe kE_cX9_shorten rfl rfl) (kBe kE_cX9_shorten rfl rfl)
theorem dX9_shorten_10 : decode cX9_shorten 10 = .ok (.invokestatic 15, 3) := kD184 (kBe kE_cX9_shorten rfl rfl) (kBe kE_cX9_shorten rfl rfl) (kBe kE_cX9_shorten rfl rfl)
theorem dX9_shorten_13 : decode cX9_shorten 13 = .ok (.putfield 25, 3) := kD181 (kBe kE_cX9_shorten rfl rfl) (kBe kE_cX9_shorten rfl rfl) (kBe kE_cX9_shorten rfl rfl)
theorem dX9_shorten_16 : decode cX9_shorten 16 = .ok (.aload_n 0, 1) := kD42 (kBe kE_cX9_shorten rfl rfl)
theorem dX9_shorten_17 : decode cX9_shorten 17 = .ok (.invokevirtual 31, 3) := kD182 (kBe kE_cX9_shorten rfl rfl) (kBe kE_cX9_shorten rfl rfl) (kBe kE_cX9_shorten rfl rfl)
theorem dX9_shorten_20 : decode cX9_shorten 20 = .ok (.return_, 1) := kD177 (kBe kE_cX9_shorten rfl rfl)
theorem kE_cX9_valueAt : kDc cX9_valueAt 4217620787937640653339352990993800541783799433241177398043 24 := by unfold kDc; decide +kernel
theorem dX9_valueAt_0 : decode cX9_valueAt 0 = .ok (.iload_n 1, 1) := kD27 (kBe kE_cX9_valueAt rfl rfl)
theorem dX9_valueAt_1 : decode cX9_valueAt 1 = .ok (.ifCond .lt 21, 3) := kD155 (kBe kE_cX9_valueAt rfl rfl) (kBe kE_cX9_valueAt rfl rfl) (kBe kE_cX9_valueAt rfl rfl) kS16_0_21
theorem dX9_valueAt_4 : decode cX9_valueAt 4 = .ok (.iload_n 1, 1) := kD27 (kBe kE_cX9_valueAt rfl rfl)
theorem dX9_valueAt_5 : decode cX9_valueAt 5 = .ok (.aload_n 0, 1) := kD42 (kBe kE_cX9_valueAt rfl rfl)
theorem dX9_valueAt_6 : decode cX9_valueAt 6 = .ok (.getfield 21, 3) := kD180 (kBe kE_cX9_valueAt rfl rfl) (kBe kE_cX9_valueAt rfl rfl) (kBe kE_cX9_valueAt rfl rfl)
theorem dX9_valueAt_9 : decode cX9_valueAt 9 = .ok (.arraylength, 1) := kD190 (kBe kE_cX9_valueAt rfl rfl)
theorem dX9_valueAt_10 : decode cX9_valueAt 10 = .ok (.if_icmp .ge 12, 3) := kD162 (kBe kE_cX9_valueAt rfl rfl) (kBe kE_cX9_valueAt rfl rfl) (kBe kE_cX9_valueAt rfl rfl) kS16_0_12
theorem dX9_valueAt_13 : decode cX9_valueAt 13 = .ok (.aload_n 0, 1) := kD42 (kBe kE_cX9_valueAt rfl rfl)
theorem dX9_valueAt_14 : decode cX9_valueAt 14 = .ok (.getfield 21, 3) := kD180 (kBe kE_cX9_valueAt rfl rfl) (kBe kE_cX9_valueAt rfl rfl) (kBe kE_cX9_valueAt rfl rfl)
theorem dX9_valueAt_17 : decode cX9_valueAt 17 = .ok (.iload_n 1, 1) := kD27 (kBe kE_cX9_valueAt rfl rfl)
theorem dX9_valueAt_18 : decode cX9_valueAt 18 = .ok (.iaload, 1) := kD46 (kBe kE_cX9_valueAt rfl rfl)
theorem dX9_valueAt_19 : decode cX9_valueAt 19 = .ok (.goto 4, 3) := kD167 (kBe kE_cX9_valueAt rfl rfl) (kBe kE_cX9_valueAt rfl rfl) (kBe kE_cX9_valueAt rfl rfl) kS16_0_4
theorem dX9_valueAt_22 : decode cX9_valueAt 22 = .ok (.iconst (-1), 1) := kD2 (kBe kE_cX9_valueAt rfl rfl)
theorem dX9_valueAt_23 : decode cX9_valueAt 23 = .ok (.ireturn, 1) := kD172 (kBe kE_cX9_valueAt rfl rfl)
theorem kE_cX9_has : kDc cX9_has 14984339347662989861893853171518601817004827 18 := by unfold kDc; decide +kernel
theorem dX9_has_0 : decode cX9_has 0 = .ok (.iload_n 1, 1) := kD27 (kBe kE_cX9_has rfl rfl)
theorem dX9_has_1 : decode cX9_has 1 = .ok (.ifCond .lt 15, 3) := kD155 (kBe kE_cX9_has rfl rfl) (kBe kE_cX9_has rfl rfl) (kBe kE_cX9_has rfl rfl) kS16_0_15
theorem dX9_has_4 : decode cX9_has 4 = .ok (.iload_n 1, 1) := kD27 (kBe kE_cX9_has rfl rfl)
theorem dX9_has_5 : decode cX9_has 5 = .ok (.aload_n 0, 1) := kD42 (kBe kE_cX9_has rfl rfl)
theorem dX9_has_6 : decode cX9_has 6 = .ok (.getfield 37, 3) := kD180 (kBe kE_cX9_has rfl rfl) (kBe kE_cX9_has rfl rfl) (kBe kE_cX9_has rfl rfl)
theorem dX9_has_9 : decode cX9_has 9 = .ok (.if_icmp .ge 7, 3) := kD162 (kBe kE_cX9_has rfl rfl) (kBe kE_cX9_has rfl rfl) (kBe kE_cX9_has rfl rfl) kS16_0_7
theorem dX9_has_12 : decode cX9_has 12 = .ok (.iconst 1, 1) := kD4 (kBe kE_cX9_has rfl rfl)
theorem dX9_has_13 : decode cX9_has 13 = .ok (.goto 4, 3) := kD167 (kBe kE_cX9_has rfl rfl) (kBe kE_cX9_has rfl rfl) (kBe kE_cX9_has rfl rfl) kS16_0_4
theorem dX9_has_16 : decode cX9_has 16 = .ok (.iconst 0, 1) := kD3 (kBe kE_cX9_has rfl rfl)
theorem dX9_has_17 : decode cX9_has 17 = .ok (.ireturn, 1) := kD172 (kBe kE_cX9_has rfl rfl)
theorem kE_cX9_readAgain : kDc cX9_readAgain 977067694194363314459641835895997501731608760865341455158647154095690614681630785121116269856640673949353391482329843004636258401143237141517450565012097137838269514585622764077977869655478175218563062482201367073325610 91 := by unfold kDc; decide +kernel
theorem dX9_readAgain_0 : decode cX9_readAgain 0 = .ok (.aload_n 0, 1) := kD42 (kBe kE_cX9_readAgain rfl rfl)
theorem dX9_readAgain_1 : decode cX9_readAgain 1 = .ok (.iconst (-1), 1) := kD2 (kBe kE_cX9_readAgain rfl rfl)
theorem dX9_readAgain_2 : decode cX9_readAgain 2 = .ok (.putfield 9, 3) := kD181 (kBe kE_cX9_readAgain rfl rfl) (kBe kE_cX9_readAgain rfl rfl) (kBe kE_cX9_readAgain rfl rfl)
theorem dX9_readAgain_5 : decode cX9_readAgain 5 = .ok (.iconst 0, 1) := kD3 (kBe kE_cX9_readAgain rfl rfl)
theorem dX9_readAgain_6 : decode cX9_readAgain 6 = .ok (.istore_n 1, 1) := kD60 (kBe kE_cX9_readAgain rfl rfl)
theorem dX9_readAgain_7 : decode cX9_readAgain 7 = .ok (.iload_n 1, 1) := kD27 (kBe kE_cX9_readAgain rfl rfl)
theorem dX9_readAgain_8 : decode cX9_readAgain 8 = .ok (.aload_n 0, 1) := kD42 (kBe kE_cX9_readAgain rfl rfl)
theorem dX9_readAgain_9 : decode cX9_readAgain 9 = .ok (.getfield 25, 3) := kD180 (kBe kE_cX9_readAgain rfl rfl) (kBe kE_cX9_readAgain rfl rfl) (kBe kE_cX9_readAgain rfl rfl)
theorem dX9_readAgain_12 : decode cX9_readAgain 12 = .ok (.if_icmp .ge 31, 3) := kD162 (kBe kE_cX9_readAgain rfl rfl) (kBe kE_cX9_readAgain rfl rfl) (kBe kE_cX9_readAgain rfl rfl) kS16_0_31
theorem dX9_readAgain_15 : decode cX9_readAgain 15 = .ok (.aload_n 0, 1) := kD42 (kBe kE_cX9_readAgain rfl rfl)
theorem dX9_readAgain_16 : decode cX9_readAgain 16 = .ok (.getfield 9, 3) := kD180 (kBe kE_cX9_readAgain rfl rfl) (kBe kE_cX9_readAgain rfl rfl) (kBe kE_cX9_readAgain rfl rfl)
theorem dX9_readAgain_19 : decode cX9_readAgain 19 = .ok (.iconst (-1), 1) := kD2 (kBe kE_cX9_readAgain rfl rfl)
theorem dX9_readAgain_20 : decode cX9_readAgain 20 = .ok (.if_icmp .ne 23, 3) := kD160 (kBe kE_cX9_readAgain rfl rfl) (kBe kE_cX9_readAgain rfl rfl) (kBe kE_cX9_readAgain rfl rfl) kS16_0_23
theorem dX9_readAgain_23 : decode cX9_readAgain 23 = .ok (.aload_n 0, 1) := kD42 (kBe kE_cX9_readAgain rfl rfl)
theorem dX9_readAgain_24 : decode cX9_readAgain 24 = .ok (.iload_n 1, 1) := kD27 (kBe kE_cX9_readAgain rfl rfl)
theorem dX9_readAgain_25 : decode cX9_readAgain 25 = .ok (.invokevirtual 40, 3) := kD182 (kBe kE_cX9_readAgain rfl rfl) (kBe kE_cX9_readAgain rfl rfl) (kBe kE_cX9_readAgain rfl rfl)
theorem dX9_readAgain_28 : decode cX9_readAgain 28 = .ok (.iconst (-1), 1) := kD2 (kBe kE_cX9_readAgain rfl rfl)
theorem dX9_readAgain_29 : decode cX9_readAgain 29 = .ok (.if_icmp .ne 8, 3) := kD160 (kBe kE_cX9_readAgain rfl rfl) (kBe kE_cX9_readAgain rfl rfl) (kBe kE_cX9_readAgain rfl rfl) kS16_0_8
theorem dX9_readAgain_32 : decode cX9_readAgain 32 = .ok (.aload_n 0, 1) := kD42 (kBe kE_cX9_readAgain rfl rfl)
theorem dX9_readAgain_33 : decode cX9_readAgain 33 = .ok (.iload_n 1, 1) := kD27 (kBe kE_cX9_readAgain rfl rfl)
theorem dX9_readAgain_34 : decode cX9_readAgain 34 = .ok (.putfield 9, 3) := kD181 (kBe kE_cX9_readAgain rfl rfl) (kBe kE_cX9_readAgain rfl rfl) (kBe kE_cX9_readAgain rfl rfl)
theorem dX9_readAgain_37 : decode cX9_readAgain 37 = .ok (.iinc 1 1, 3) := kD132 (kBe kE_cX9_readAgain rfl rfl) (kBe kE_cX9_readAgain rfl rfl) (kBe kE_cX9_readAgain rfl rfl) kS8_1
theorem dX9_readAgain_40 : decode cX9_readAgain 40 = .ok (.goto (-33), 3) := kD167 (kBe kE_cX9_readAgain rfl rfl) (kBe kE_cX9_readAgain rfl rfl) (kBe kE_cX9_readAgain rfl rfl) kS16_255_223
theorem dX9_readAgain_43 : decode cX9_readAgain 43 = .ok (.aload_n 0, 1) := kD42 (kBe kE_cX9_readAgain rfl rfl)
theorem dX9_readAgain_44 : decode cX9_readAgain 44 = .ok (.aload_n 0, 1) := kD42 (kBe kE_cX9_readAgain rfl rfl)
theorem dX9_readAgain_45 : decode cX9_readAgain 45 = .ok (.getfield 25, 3) := kD180 (kBe kE_cX9_readAgain rfl rfl) (kBe kE_cX9_readAgain rfl rfl) (kBe kE_cX9_readAgain rfl rfl)
theorem dX9_readAgain_48 : decode cX9_readAgain 48 = .ok (.invokevirtual 44, 3) := kD182 (kBe kE_cX9_readAgain rfl rfl) (kBe kE_cX9_readAgain rfl rfl) (kBe kE_cX9_readAgain rfl rfl)
theorem dX9_readAgain_51 : decode cX9_readAgain 51 = .ok (.istore_n 1, 1) := kD60 (kBe kE_cX9_readAgain rfl rfl)
theorem dX9_readAgain_52 : decode cX9_readAgain 52 = .ok (.aload_n 0, 1) := kD42 (kBe kE_cX9_readAgain rfl rfl)
theorem dX9_readAgain_53 : decode cX9_readAgain 53 = .ok (.getfield 9, 3) := kD180 (kBe kE_cX9_readAgain rfl rfl) (kBe kE_cX9_readAgain rfl rfl) (kBe kE_cX9_readAgain rfl rfl)
theorem dX9_readAgain_56 : decode cX9_readAgain 56 = .ok (.iconst (-1), 1) := kD2 (kBe kE_cX9_readAgain rfl rfl)
theorem dX9_readAgain_57 : decode cX9_readAgain 57 = .ok (.if_icmp .ne 16, 3) := kD160 (kBe kE_cX9_readAgain rfl rfl) (kBe kE_cX9_readAgain rfl rfl) (kBe kE_cX9_readAgain rfl rfl) kS16_0_16
theorem dX9_readAgain_60 : decode cX9_readAgain 60 = .ok (.iload_n 1, 1) := kD27 (kBe kE_cX9_readAgain rfl rfl)
theorem dX9_readAgain_61 : decode cX9_readAgain 61 = .ok (.iconst (-1), 1) := kD2 (kBe kE_cX9_readAgain rfl rfl)
theorem dX9_readAgain_62 : decode cX9_readAgain 62 = .ok (.if_icmp .ne 11, 3) := kD160 (kBe kE_cX9_readAgain rfl rfl) (kBe kE_cX9_readAgain rfl rfl) (kBe kE_cX9_readAgain rfl rfl) kS16_0_11
theorem dX9_readAgain_65 : decode cX9_readAgain 65 = .ok (.aload_n 0, 1) := kD42 (kBe kE_cX9_readAgain rfl rfl)
theorem dX9_readAgain_66 : decode cX9_readAgain 66 = .ok (.aload_n 0, 1) := kD42 (kBe kE_cX9_readAgain rfl rfl)
theorem dX9_readAgain_67 : decode cX9_readAgain 67 = .ok (.getfield 25, 3) := kD180 (kBe kE_cX9_readAgain rfl rfl) (kBe kE_cX9_readAgain rfl rfl) (kBe kE_cX9_readAgain rfl rfl)
theorem dX9_readAgain_70 : decode cX9_readAgain 70 = .ok (.putfield 9, 3) := kD181 (kBe kE_cX9_readAgain rfl rfl) (kBe kE_cX9_readAgain rfl rfl) (kBe kE_cX9_readAgain rfl rfl)
theorem dX9_readAgain_73 : decode cX9_readAgain 73 = .ok (.aload_n 0, 1) := kD42 (kBe kE_cX9_readAgain rfl rfl)
theorem dX9_readAgain_74 : decode cX9_readAgain 74 = .ok (.aload_n 0, 1) := kD42 (kBe kE_cX9_readAgain rfl rfl)
theorem dX9_readAgain_75 : decode cX9_readAgain 75 = .ok (.getfield 9, 3) := kD180 (kBe kE_cX9_readAgain rfl rfl) (kBe kE_cX9_readAgain rfl rfl) (kBe kE_cX9_readAgain rfl rfl)
theorem dX9_readAgain_78 : decode cX9_readAgain 78 = .ok (.iconst (-1), 1) := kD2 (kBe kE_cX9_readAgain rfl rfl)
theorem dX9_readAgain_79 : decode cX9_readAgain 79 = .ok (.if_icmp .ne 7, 3) := kD160 (kBe kE_cX9_readAgain rfl rfl) (kBe kE_cX9_readAgain rfl rfl) (kBe kE_cX9_readAgain rfl rfl) kS16_0_7
theorem dX9_readAgain_82 : decode cX9_readAgain 82 = .ok (.iload_n 1, 1) := kD27 (kBe kE_cX9_readAgain rfl rfl)
theorem dX9_readAgain_83 : decode cX9_readAgain 83 = .ok (.goto 4, 3) := kD167 (kBe kE_cX9_readAgain rfl rfl) (kBe kE_cX9_readAgain rfl rfl) (kBe kE_cX9_readAgain rfl rfl) kS16_0_4
theorem dX9_readAgain_86 : decode cX9_readAgain 86 = .ok (.iconst 0, 1) := kD3 (kBe kE_cX9_readAgain rfl rfl)
theorem dX9_readAgain_87 : decode cX9_readAgain 87 = .ok (.putfield 37, 3) := kD181 (kBe kE_cX9_readAgain rfl rfl) (kBe kE_cX9_readAgain rfl rfl) (kBe kE_cX9_readAgain rfl rfl)
theorem dX9_readAgain_90 : decode cX9_readAgain 90 = .ok (.return_, 1) := kD177 (kBe kE_cX9_readAgain rfl rfl)
theorem kE_cX10_init : kDc cX10_init 32959957640002405756227779777867987828721596479181713455437383454414325359418785400542821927225682949914659486957108996521947828163977459498 58 := by unfold kDc; decide +kernel
theorem dX10_init_0 : decode cX10_init 0 = .ok (.aload_n 0, 1) := kD42 (kBe kE_cX10_init rfl rfl)
theorem dX10_init_1 : decode cX10_init 1 = .ok (.invokespecial 3, 3) := kD183 (kBe kE_cX10_init rfl rfl) (kBe kE_cX10_init rfl rfl) (kBe kE_cX10_init rfl rfl)
theorem dX10_init_4 : decode cX10_init 4 = .ok (.aload_n 0, 1) := kD42 (kBe kE_cX10_init rfl rfl)
theorem dX10_init_5 : decode cX10_init 5 = .ok (.new 9, 3) := kD187 (kBe kE_cX10_init rfl rfl) (kBe kE_cX10_init rfl rfl) (kBe kE_cX10_init rfl rfl)
theorem dX10_init_8 : decode cX10_init 8 = .ok (.dup, 1) := kD89 (kBe kE_cX10_init rfl rfl)
theorem dX10_init_9 : decode cX10_init 9 = .ok (.invokespecial 11, 3) := kD183 (kBe kE_cX10_init rfl rfl) (kBe kE_cX10_init rfl rfl) (kBe kE_cX10_init rfl rfl)
theorem dX10_init_12 : decode cX10_init 12 = .ok (.putfield 12, 3) := kD181 (kBe kE_cX10_init rfl rfl) (kBe kE_cX10_init rfl rfl) (kBe kE_cX10_init rfl rfl)
theorem dX10_init_15 : decode cX10_init 15 = .ok (.aload_n 0, 1) := kD42 (kBe kE_cX10_init rfl rfl)
theorem dX10_init_16 : decode cX10_init 16 = .ok (.new 9, 3) := kD187 (kBe kE_cX10_init rfl rfl) (kBe kE_cX10_init rfl rfl) (kBe kE_cX10_init rfl rfl)
theorem dX10_init_19 : decode cX10_init 19 = .ok (.dup, 1) := kD89 (kBe kE_cX10_init rfl rfl)
theorem dX10_init_20 : decode cX10_init 20 = .ok (.invokespecial 11, 3) := kD183 (kBe kE_cX10_init rfl rfl) (kBe kE_cX10_init rfl rfl) (kBe kE_cX10_init rfl rfl)
theorem dX10_init_23 : decode cX10_init 23 = .ok (.putfield 18, 3) := kD181 (kBe kE_cX10_init rfl rfl) (kBe kE_cX10_init rfl rfl) (kBe kE_cX10_init rfl rfl)
theorem dX10_init_26 : decode cX10_init 26 = .ok (.aload_n 0, 1) := kD42 (kBe kE_cX10_init rfl rfl)
theorem dX10_init_27 : decode cX10_init 27 = .ok (.aload_n 0, 1) := kD42 (kBe kE_cX10_init rfl rfl)
theorem dX10_init_28 : decode cX10_init 28 = .ok (.getfield 12, 3) := kD180 (kBe kE_cX10_init rfl rfl) (kBe kE_cX10_init rfl rfl) (kBe kE_cX10_init rfl rfl)
theorem dX10_init_31 : decode cX10_init 31 = .ok (.putfield 21, 3) := kD181 (kBe kE_cX10_init rfl rfl) (kBe kE_cX10_init rfl rfl) (kBe kE_cX10_init rfl rfl)
theorem dX10_init_34 : decode cX10_init 34 = .ok (.aload_n 0, 1) := kD42 (kBe kE_cX10_init rfl rfl)
theorem dX10_init_35 : decode cX10_init 35 = .ok (.aload_n 0, 1) := kD42 (kBe kE_cX10_init rfl rfl)
theorem dX10_init_36 : decode cX10_init 36 = .ok (.getfield 18, 3) := kD180 (kBe kE_cX10_init rfl rfl) (kBe kE_cX10_init rfl rfl) (kBe kE_cX10_init rfl rfl)
theorem dX10_init_39 : decode cX10_init 39 = .ok (.putfield 24, 3) := kD181 (kBe kE_cX10_init rfl rfl) (kBe kE_cX10_init rfl rfl) (kBe kE_cX10_init rfl rfl)
theorem dX10_init_42 : decode cX10_init 42 = .ok (.aload_n 0, 1) := kD42 (kBe kE_cX10_init rfl rfl)
theorem dX10_init_43 : decode cX10_init 43 = .ok (.aload_n 1, 1) := kD43 (kBe kE_cX10_init rfl rfl)
theorem dX10_init_44 : decode cX10_init 44 = .ok (.putfield 27, 3) := kD181 (kBe kE_cX10_init rfl rfl) (kBe kE_cX10_init rfl rfl) (kBe kE_cX10_init rfl rfl)
theorem dX10_init_47 : decode cX10_init 47 = .ok (.aload_n 0, 1) := kD42 (kBe kE_cX10_init rfl rfl)
theorem dX10_init_48 : decode cX10_init 48 = .ok (.aload_n 2, 1) := kD44 (kBe kE_cX10_init rfl rfl)
theorem dX10_init_49 : decode cX10_init 49 = .ok (.putfield 31, 3) := kD181 (kBe kE_cX10_init rfl rfl) (kBe kE_cX10_init rfl rfl) (kBe kE_cX10_init rfl rfl)
theorem dX10_init_52 : decode cX10_init 52 = .ok (.aload_n 0, 1) := kD42 (kBe kE_cX10_init rfl rfl)
theorem dX10_init_53 : decode cX10_init 53 = .ok (.aload_n 3, 1) := kD45 (kBe kE_cX10_init rfl rfl)
theorem dX10_init_54 : decode cX10_init 54 = .ok (.putfield 35, 3) := kD181 (kBe kE_cX10_init rfl rfl) (kBe kE_cX10_init rfl rfl) (kBe kE_cX10_init rfl rfl)
theorem dX10_init_57 : decode cX10_init 57 = .ok (.return_, 1) := kD177 (kBe kE_cX10_init rfl rfl)
theorem kE_cX10_board : kDc cX10_board 6517256474713661340808001215225050888857389115427465277289729687458311717460780349912435338895038000551543737727036447838434007464882250200590311350604022152410576788646247330056647786828913549495808072636849710492157272540948860519797513566821590798275241969171389302012923668642465266544780810267958706831337548708903043140802236727727594844072299568775242921670365406667179985961631985679598637647066990533466629419667254799751637022622933505740001909156394 191 := by unfold kDc; decide +kernel
theorem dX10_board_0 : decode cX10_board 0 = .ok (.aload_n 0, 1) := kD42 (kBe kE_cX10_board rfl rfl)
theorem dX10_board_1 : decode cX10_board 1 = .ok (.aload_n 0, 1) := kD42 (kBe kE_cX10_board rfl rfl)
theorem dX10_board_2 : decode cX10_board 2 = .ok (.getfield 31, 3) := kD180 (kBe kE_cX10_board rfl rfl) (kBe kE_cX10_board rfl rfl) (kBe kE_cX10_board rfl rfl)
theorem dX10_board_5 : decode cX10_board 5 = .ok (.iload_n 1, 1) := kD27 (kBe kE_cX10_board rfl rfl)
theorem dX10_board_6 : decode cX10_board 6 = .ok (.invokevirtual 39, 3) := kD182 (kBe kE_cX10_board rfl rfl) (kBe kE_cX10_board rfl rfl) (kBe kE_cX10_board rfl rfl)
theorem dX10_board_9 : decode cX10_board 9 = .ok (.ifCond .eq 29, 3) := kD153 (kBe kE_cX10_board rfl rfl) (kBe kE_cX10_board rfl rfl) (kBe kE_cX10_board rfl rfl) kS16_0_29
theorem dX10_board_12 : decode cX10_board 12 = .ok (.aload_n 0, 1) := kD42 (kBe kE_cX10_board rfl rfl)
theorem dX10_board_13 : decode cX10_board 13 = .ok (.getfield 35, 3) := kD180 (kBe kE_cX10_board rfl rfl) (kBe kE_cX10_board rfl rfl) (kBe kE_cX10_board rfl rfl)
theorem dX10_board_16 : decode cX10_board 16 = .ok (.iload_n 2, 1) := kD28 (kBe kE_cX10_board rfl rfl)
theorem dX10_board_17 : decode cX10_board 17 = .ok (.invokevirtual 45, 3) := kD182 (kBe kE_cX10_board rfl rfl) (kBe kE_cX10_board rfl rfl) (kBe kE_cX10_board rfl rfl)
theorem dX10_board_20 : decode cX10_board 20 = .ok (.ifCond .eq 18, 3) := kD153 (kBe kE_cX10_board rfl rfl) (kBe kE_cX10_board rfl rfl) (kBe kE_cX10_board rfl rfl) kS16_0_18
theorem dX10_board_23 : decode cX10_board 23 = .ok (.aload_n 0, 1) := kD42 (kBe kE_cX10_board rfl rfl)
theorem dX10_board_24 : decode cX10_board 24 = .ok (.getfield 35, 3) := kD180 (kBe kE_cX10_board rfl rfl) (kBe kE_cX10_board rfl rfl) (kBe kE_cX10_board rfl rfl)
theorem dX10_board_27 : decode cX10_board 27 = .ok (.iload_n 3, 1) := kD29 (kBe kE_cX10_board rfl rfl)
theorem dX10_board_28 : decode cX10_board 28 = .ok (.invokevirtual 45, 3) := kD182 (kBe kE_cX10_board rfl rfl) (kBe kE_cX10_board rfl rfl) (kBe kE_cX10_board rfl rfl)
theorem dX10_board_31 : decode cX10_board 31 = .ok (.ifCond .eq 7, 3) := kD153 (kBe kE_cX10_board rfl rfl) (kBe kE_cX10_board rfl rfl) (kBe kE_cX10_board rfl rfl) kS16_0_7
theorem dX10_board_34 : decode cX10_board 34 = .ok (.iconst 1, 1) := kD4 (kBe kE_cX10_board rfl rfl)
theorem dX10_board_35 : decode cX10_board 35 = .ok (.goto 4, 3) := kD167 (kBe kE_cX10_board rfl rfl) (kBe kE_cX10_board rfl rfl) (kBe kE_cX10_board rfl rfl) kS16_0_4
theorem dX10_board_38 : decode cX10_board 38 = .ok (.iconst 0, 1) := kD3 (kBe kE_cX10_board rfl rfl)
theorem dX10_board_39 : decode cX10_board 39 = .ok (.putfield 48, 3) := kD181 (kBe kE_cX10_board rfl rfl) (kBe kE_cX10_board rfl rfl) (kBe kE_cX10_board rfl rfl)
theorem dX10_board_42 : decode cX10_board 42 = .ok (.aload_n 0, 1) := kD42 (kBe kE_cX10_board rfl rfl)
theorem dX10_board_43 : decode cX10_board 43 = .ok (.iconst 0, 1) := kD3 (kBe kE_cX10_board rfl rfl)
theorem dX10_board_44 : decode cX10_board 44 = .ok (.putfield 52, 3) := kD181 (kBe kE_cX10_board rfl rfl) (kBe kE_cX10_board rfl rfl) (kBe kE_cX10_board rfl rfl)
theorem dX10_board_47 : decode cX10_board 47 = .ok (.aload_n 0, 1) := kD42 (kBe kE_cX10_board rfl rfl)
theorem dX10_board_48 : decode cX10_board 48 = .ok (.getfield 48, 3) := kD180 (kBe kE_cX10_board rfl rfl) (kBe kE_cX10_board rfl rfl) (kBe kE_cX10_board rfl rfl)
theorem dX10_board_51 : decode cX10_board 51 = .ok (.ifCond .eq 139, 3) := kD153 (kBe kE_cX10_board rfl rfl) (kBe kE_cX10_board rfl rfl) (kBe kE_cX10_board rfl rfl) kS16_0_139
theorem dX10_board_54 : decode cX10_board 54 = .ok (.aload_n 0, 1) := kD42 (kBe kE_cX10_board rfl rfl)
theorem dX10_board_55 : decode cX10_board 55 = .ok (.aload_n 0, 1) := kD42 (kBe kE_cX10_board rfl rfl)
theorem dX10_board_56 : decode cX10_board 56 = .ok (.getfield 31, 3) := kD180 (kBe kE_cX10_board rfl rfl) (kBe kE_cX10_board rfl rfl) (kBe kE_cX10_board rfl rfl)
theorem dX10_board_59 : decode cX10_board 59 = .ok (.iload_n 1, 1) := kD27 (kBe kE_cX10_board rfl rfl)
theorem dX10_board_60 : decode cX10_board 60 = .ok (.iconst 0, 1) := kD3 (kBe kE_cX10_board rfl rfl)
theorem dX10_board_61 : decode cX10_board 61 = .ok (.invokevirtual 56, 3) := kD182 (kBe kE_cX10_board rfl rfl) (kBe kE_cX10_board rfl rfl) (kBe kE_cX10_board rfl rfl)
theorem dX10_board_64 : decode cX10_board 64 = .ok (.putfield 60, 3) := kD181 (kBe kE_cX10_board rfl rfl) (kBe kE_cX10_board rfl rfl) (kBe kE_cX10_board rfl rfl)
theorem dX10_board_67 : decode cX10_board 67 = .ok (.aload_n 0, 1) := kD42 (kBe kE_cX10_board rfl rfl)
theorem dX10_board_68 : decode cX10_board 68 = .ok (.aload_n 0, 1) := kD42 (kBe kE_cX10_board rfl rfl)
theorem dX10_board_69 : decode cX10_board 69 = .ok (.getfield 31, 3) := kD180 (kBe kE_cX10_board rfl rfl) (kBe kE_cX10_board rfl rfl) (kBe kE_cX10_board rfl rfl)
theorem dX10_board_72 : decode cX10_board 72 = .ok (.iload_n 1, 1) := kD27 (kBe kE_cX10_board rfl rfl)
theorem dX10_board_73 : decode cX10_board 73 = .ok (.iconst 1, 1) := kD4 (kBe kE_cX10_board rfl rfl)
theorem dX10_board_74 : decode cX10_board 74 = .ok (.invokevirtual 56, 3) := kD182 (kBe kE_cX10_board rfl rfl) (kBe kE_cX10_board rfl rfl) (kBe kE_cX10_board rfl rfl)
theorem dX10_board_77 : decode cX10_board 77 = .ok (.putfield 63, 3) := kD181 (kBe kE_cX10_board rfl rfl) (kBe kE_cX10_board rfl rfl) (kBe kE_cX10_board rfl rfl)
theorem dX10_board_80 : decode cX10_board 80 = .ok (.aload_n 0, 1) := kD42 (kBe kE_cX10_board rfl rfl)
theorem dX10_board_81 : decode cX10_board 81 = .ok (.iconst 5, 1) := kD8 (kBe kE_cX10_board rfl rfl)
theorem dX10_board_82 : decode cX10_board 82 = .ok (.aload_n 0, 1) := kD42 (kBe kE_cX10_board rfl rfl)
theorem dX10_board_83 : decode cX10_board 83 = .ok (.getfield 31, 3) := kD180 (kBe kE_cX10_board rfl rfl) (kBe kE_cX10_board rfl rfl) (kBe kE_cX10_board rfl rfl)
theorem dX10_board_86 : decode cX10_board 86 = .ok (.iload_n 1, 1) := kD27 (kBe kE_cX10_board rfl rfl)
theorem dX10_board_87 : decode cX10_board 87 = .ok (.iconst 2, 1) := kD5 (kBe kE_cX10_board rfl rfl)
theorem dX10_board_88 : decode cX10_board 88 = .ok (.invokevirtual 56, 3) := kD182 (kBe kE_cX10_board rfl rfl) (kBe kE_cX10_board rfl rfl) (kBe kE_cX10_board rfl rfl)
theorem dX10_board_91 : decode cX10_board 91 = .ok (.imul, 1) := kD104 (kBe kE_cX10_board rfl rfl)
theorem dX10_board_92 : decode cX10_board 92 = .ok (.putfield 66, 3) := kD181 (kBe kE_cX10_board rfl rfl) (kBe kE_cX10_board rfl rfl) (kBe kE_cX10_board rfl rfl)
theorem dX10_board_95 : decode cX10_board 95 = .ok (.aload_n 0, 1) := kD42 (kBe kE_cX10_board rfl rfl)
theorem dX10_board_96 : decode cX10_board 96 = .ok (.aload_n 0, 1) := kD42 (kBe kE_cX10_board rfl rfl)
theorem dX10_board_97 : decode cX10_board 97 = .ok (.getfield 31, 3) := kD180 (kBe kE_cX10_board rfl rfl) (kBe kE_cX10_board rfl rfl) (kBe kE_cX10_board rfl rfl)
theorem dX10_board_100 : decode cX10_board 100 = .ok (.iload_n 1, 1) := kD27 (kBe kE_cX10_board rfl rfl)
theorem dX10_board_101 : decode cX10_board 101 = .ok (.iconst 3, 1) := kD6 (kBe kE_cX10_board rfl rfl)
theorem dX10_board_102 : decode cX10_board 102 = .ok (.invokevirtual 56, 3) := kD182 (kBe kE_cX10_board rfl rfl) (kBe kE_cX10_board rfl rfl) (kBe kE_cX10_board rfl rfl)
theorem dX10_board_105 : decode cX10_board 105 = .ok (.putfield 69, 3) := kD181 (kBe kE_cX10_board rfl rfl) (kBe kE_cX10_board rfl rfl) (kBe kE_cX10_board rfl rfl)
theorem dX10_board_108 : decode cX10_board 108 = .ok (.aload_n 0, 1) := kD42 (kBe kE_cX10_board rfl rfl)
theorem dX10_board_109 : decode cX10_board 109 = .ok (.getfield 12, 3) := kD180 (kBe kE_cX10_board rfl rfl) (kBe kE_cX10_board rfl rfl) (kBe kE_cX10_board rfl rfl)
theorem dX10_board_112 : decode cX10_board 112 = .ok (.aload_n 0, 1) := kD42 (kBe kE_cX10_board rfl rfl)
theorem dX10_board_113 : decode cX10_board 113 = .ok (.getfield 35, 3) := kD180 (kBe kE_cX10_board rfl rfl) (kBe kE_cX10_board rfl rfl) (kBe kE_cX10_board rfl rfl)
theorem dX10_board_116 : decode cX10_board 116 = .ok (.iload_n 2, 1) := kD28 (kBe kE_cX10_board rfl rfl)
theorem dX10_board_117 : decode cX10_board 117 = .ok (.iconst 0, 1) := kD3 (kBe kE_cX10_board rfl rfl)
theorem dX10_board_118 : decode cX10_board 118 = .ok (.invokevirtual 72, 3) := kD182 (kBe kE_cX10_board rfl rfl) (kBe kE_cX10_board rfl rfl) (kBe kE_cX10_board rfl rfl)
theorem dX10_board_121 : decode cX10_board 121 = .ok (.putfield 73, 3) := kD181 (kBe kE_cX10_board rfl rfl) (kBe kE_cX10_board rfl rfl) (kBe kE_cX10_board rfl rfl)
theorem dX10_board_124 : decode cX10_board 124 = .ok (.aload_n 0, 1) := kD42 (kBe kE_cX10_board rfl rfl)
theorem dX10_board_125 : decode cX10_board 125 = .ok (.getfield 12, 3) := kD180 (kBe kE_cX10_board rfl rfl) (kBe kE_cX10_board rfl rfl) (kBe kE_cX10_board rfl rfl)
theorem dX10_board_128 : decode cX10_board 128 = .ok (.aload_n 0, 1) := kD42 (kBe kE_cX10_board rfl rfl)
theorem dX10_board_129 : decode cX10_board 129 = .ok (.getfield 35, 3) := kD180 (kBe kE_cX10_board rfl rfl) (kBe kE_cX10_board rfl rfl) (kBe kE_cX10_board rfl rfl)
theorem dX10_board_132 : decode cX10_board 132 = .ok (.iload_n 2, 1) := kD28 (kBe kE_cX10_board rfl rfl)
theorem dX10_board_133 : decode cX10_board 133 = .ok (.iconst 1, 1) := kD4 (kBe kE_cX10_board rfl rfl)
theorem dX10_board_134 : decode cX10_board 134 = .ok (.invokevirtual 72, 3) := kD182 (kBe kE_cX10_board rfl rfl) (kBe kE_cX10_board rfl rfl) (kBe kE_cX10_board rfl rfl)
theorem dX10_board_137 : decode cX10_board 137 = .ok (.putfield 75, 3) := kD181 (kBe kE_cX10_board rfl rfl) (kBe kE_cX10_board rfl rfl) (kBe kE_cX10_board rfl rfl)
theorem dX10_board_140 : decode cX10_board 140 = .ok (.aload_n 0, 1) := kD42 (kBe kE_cX10_board rfl rfl)
theorem dX10_board_141 : decode cX10_board 141 = .ok (.getfield 18, 3) := kD180 (kBe kE_cX10_board rfl rfl) (kBe kE_cX10_board rfl rfl) (kBe kE_cX10_board rfl rfl)
theorem dX10_board_144 : decode cX10_board 144 = .ok (.aload_n 0, 1) := kD42 (kBe kE_cX10_board rfl rfl)
theorem dX10_board_145 : decode cX10_board 145 = .ok (.getfield 35, 3) := kD180 (kBe kE_cX10_board rfl rfl) (kBe kE_cX10_board rfl rfl) (kBe kE_cX10_board rfl rfl)
theorem dX10_board_148 : decode cX10_board 148 = .ok (.iload_n 3, 1) := kD29 (kBe kE_cX10_board rfl rfl)
theorem dX10_board_149 : decode cX10_board 149 = .ok (.iconst 0, 1) := kD3 (kBe kE_cX10_board rfl rfl)
theorem dX10_board_150 : decode cX10_board 150 = .ok (.invokevirtual 72, 3) := kD182 (kBe kE_cX10_board rfl rfl) (kBe kE_cX10_board rfl rfl) (kBe kE_cX10_board rfl rfl)
theorem dX10_board_153 : decode cX10_board 153 = .ok (.putfield 73, 3) := kD181 (kBe kE_cX10_board rfl rfl) (kBe kE_cX10_board rfl rfl) (kBe kE_cX10_board rfl rfl)
theorem dX10_board_156 : decode cX10_board 156 = .ok (.aload_n 0, 1) := kD42 (kBe kE_cX10_board rfl rfl)
theorem dX10_board_157 : decode cX10_board 157 = .ok (.getfield 18, 3) := kD180 (kBe kE_cX10_board rfl rfl) (kBe kE_cX10_board rfl rfl) (kBe kE_cX10_board rfl rfl)
theorem dX10_board_160 : decode cX10_board 160 = .ok (.aload_n 0, 1) := kD42 (kBe kE_cX10_board rfl rfl)
theorem dX10_board_161 : decode cX10_board 161 = .ok (.getfield 35, 3) := kD180 (kBe kE_cX10_board rfl rfl) (kBe kE_cX10_board rfl rfl) (kBe kE_cX10_board rfl rfl)
theorem dX10_board_164 : decode cX10_board 164 = .ok (.iload_n 3, 1) := kD29 (kBe kE_cX10_board rfl rfl)
theorem dX10_board_165 : decode cX10_board 165 = .ok (.iconst 1, 1) := kD4 (kBe kE_cX10_board rfl rfl)
theorem dX10_board_166 : decode cX10_board 166 = .ok (.invokevirtual 72, 3) := kD182 (kBe kE_cX10_board rfl rfl) (kBe kE_cX10_board rfl rfl) (kBe kE_cX10_board rfl rfl)
theorem dX10_board_169 : decode cX10_board 169 = .ok (.putfield 75, 3) := kD181 (kBe kE_cX10_board rfl rfl) (kBe kE_cX10_board rfl rfl) (kBe kE_cX10_board rfl rfl)
theorem dX10_board_172 : decode cX10_board 172 = .ok (.aload_n 0, 1) := kD42 (kBe kE_cX10_board rfl rfl)
theorem dX10_board_173 : decode cX10_board 173 = .ok (.aload_n 0, 1) := kD42 (kBe kE_cX10_board rfl rfl)
theorem dX10_board_174 : decode cX10_board 174 = .ok (.aload_n 0, 1) := kD42 (kBe kE_cX10_board rfl rfl)
theorem dX10_board_175 : decode cX10_board 175 = .ok (.getfield 27, 3) := kD180 (kBe kE_cX10_board rfl rfl) (kBe kE_cX10_board rfl rfl) (kBe kE_cX10_board rfl rfl)
theorem dX10_board_178 : decode cX10_board 178 = .ok (.getfield 78, 3) := kD180 (kBe kE_cX10_board rfl rfl) (kBe kE_cX10_board rfl rfl) (kBe kE_cX10_board rfl rfl)
theorem dX10_board_181 : decode cX10_board 181 = .ok (.iconst 1, 1) := kD4 (kBe kE_cX10_board rfl rfl)
theorem dX10_board_182 : decode cX10_board 182 = .ok (.isub, 1) := kD100 (kBe kE_cX10_board rfl rfl)
theorem dX10_board_183 : decode cX10_board 183 = .ok (.iconst 1, 1) := kD4 (kBe kE_cX10_board rfl rfl)
theorem dX10_board_184 : decode cX10_board 184 = .ok (.invokevirtual 83, 3) := kD182 (kBe kE_cX10_board rfl rfl) (kBe kE_cX10_board rfl rfl) (kBe kE_cX10_board rfl rfl)
theorem dX10_board_187 : decode cX10_board 187 = .ok (.putfield 52, 3) := kD181 (kBe kE_cX10_board rfl rfl) (kBe kE_cX10_board rfl rfl) (kBe kE_cX10_board rfl rfl)
theorem dX10_board_190 : decode cX10_board 190 = .ok (.return_, 1) := kD177 (kBe kE_cX10_board rfl rfl)
theorem kE_cX10_flyGeese : kDc cX10_flyGeese 60198931513988074636367942079792227364062960760400651478358643690284598619593828103758138435892545226642298800372772823320990205478622146952939016807215647675240538565888627886033878024690088927077073827494005392376353397436473182674894682706075341506248822967657444360622858664799222079631218496213417890286107010304562993513098405422826776093872998479910617539778598297453684464384695650757162 164 := by unfold kDc; decide +kernel
theorem dX10_flyGeese_0 : decode cX10_flyGeese 0 = .ok (.aload_n 0, 1) := kD42 (kBe kE_cX10_flyGeese rfl rfl)
theorem dX10_flyGeese_1 : decode cX10_flyGeese 1 = .ok (.aload_n 0, 1) := kD42 (kBe kE_cX10_flyGeese rfl rfl)
theorem dX10_flyGeese_2 : decode cX10_flyGeese 2 = .ok (.getfield 12, 3) := kD180 (kBe kE_cX10_flyGeese rfl rfl) (kBe kE_cX10_flyGeese rfl rfl) (kBe kE_cX10_flyGeese rfl rfl)
theorem dX10_flyGeese_5 : decode cX10_flyGeese 5 = .ok (.putfield 21, 3) := kD181 (kBe kE_cX10_flyGeese rfl rfl) (kBe kE_cX10_flyGeese rfl rfl) (kBe kE_cX10_flyGeese rfl rfl)
theorem dX10_flyGeese_8 : decode cX10_flyGeese 8 = .ok (.aload_n 0, 1) := kD42 (kBe kE_cX10_flyGeese rfl rfl)
theorem dX10_flyGeese_9 : decode cX10_flyGeese 9 = .ok (.aload_n 0, 1) := kD42 (kBe kE_cX10_flyGeese rfl rfl)
theorem dX10_flyGeese_10 : decode cX10_flyGeese 10 = .ok (.getfield 18, 3) := kD180 (kBe kE_cX10_flyGeese rfl rfl) (kBe kE_cX10_flyGeese rfl rfl) (kBe kE_cX10_flyGeese rfl rfl)
theorem dX10_flyGeese_13 : decode cX10_flyGeese 13 = .ok (.putfield 24, 3) := kD181 (kBe kE_cX10_flyGeese rfl rfl) (kBe kE_cX10_flyGeese rfl rfl) (kBe kE_cX10_flyGeese rfl rfl)
theorem dX10_flyGeese_16 : decode cX10_flyGeese 16 = .ok (.aload_n 0, 1) := kD42 (kBe kE_cX10_flyGeese rfl rfl)
theorem dX10_flyGeese_17 : decode cX10_flyGeese 17 = .ok (.getfield 21, 3) := kD180 (kBe kE_cX10_flyGeese rfl rfl) (kBe kE_cX10_flyGeese rfl rfl) (kBe kE_cX10_flyGeese rfl rfl)
theorem dX10_flyGeese_20 : decode cX10_flyGeese 20 = .ok (.invokevirtual 87, 3) := kD182 (kBe kE_cX10_flyGeese rfl rfl) (kBe kE_cX10_flyGeese rfl rfl) (kBe kE_cX10_flyGeese rfl rfl)
theorem dX10_flyGeese_23 : decode cX10_flyGeese 23 = .ok (.aload_n 0, 1) := kD42 (kBe kE_cX10_flyGeese rfl rfl)
theorem dX10_flyGeese_24 : decode cX10_flyGeese 24 = .ok (.getfield 24, 3) := kD180 (kBe kE_cX10_flyGeese rfl rfl) (kBe kE_cX10_flyGeese rfl rfl) (kBe kE_cX10_flyGeese rfl rfl)
theorem dX10_flyGeese_27 : decode cX10_flyGeese 27 = .ok (.invokevirtual 87, 3) := kD182 (kBe kE_cX10_flyGeese rfl rfl) (kBe kE_cX10_flyGeese rfl rfl) (kBe kE_cX10_flyGeese rfl rfl)
theorem dX10_flyGeese_30 : decode cX10_flyGeese 30 = .ok (.iconst 0, 1) := kD3 (kBe kE_cX10_flyGeese rfl rfl)
theorem dX10_flyGeese_31 : decode cX10_flyGeese 31 = .ok (.istore_n 3, 1) := kD62 (kBe kE_cX10_flyGeese rfl rfl)
theorem dX10_flyGeese_32 : decode cX10_flyGeese 32 = .ok (.iload_n 3, 1) := kD29 (kBe kE_cX10_flyGeese rfl rfl)
theorem dX10_flyGeese_33 : decode cX10_flyGeese 33 = .ok (.iload_n 1, 1) := kD27 (kBe kE_cX10_flyGeese rfl rfl)
theorem dX10_flyGeese_34 : decode cX10_flyGeese 34 = .ok (.if_icmp .gt 126, 3) := kD163 (kBe kE_cX10_flyGeese rfl rfl) (kBe kE_cX10_flyGeese rfl rfl) (kBe kE_cX10_flyGeese rfl rfl) kS16_0_126
theorem dX10_flyGeese_37 : decode cX10_flyGeese 37 = .ok (.aload_n 0, 1) := kD42 (kBe kE_cX10_flyGeese rfl rfl)
theorem dX10_flyGeese_38 : decode cX10_flyGeese 38 = .ok (.getfield 27, 3) := kD180 (kBe kE_cX10_flyGeese rfl rfl) (kBe kE_cX10_flyGeese rfl rfl) (kBe kE_cX10_flyGeese rfl rfl)
theorem dX10_flyGeese_41 : decode cX10_flyGeese 41 = .ok (.iload_n 3, 1) := kD29 (kBe kE_cX10_flyGeese rfl rfl)
theorem dX10_flyGeese_42 : decode cX10_flyGeese 42 = .ok (.invokevirtual 90, 3) := kD182 (kBe kE_cX10_flyGeese rfl rfl) (kBe kE_cX10_flyGeese rfl rfl) (kBe kE_cX10_flyGeese rfl rfl)
theorem dX10_flyGeese_45 : decode cX10_flyGeese 45 = .ok (.istore 4, 2) := kD54 (kBe kE_cX10_flyGeese rfl rfl) (kBe kE_cX10_flyGeese rfl rfl)
theorem dX10_flyGeese_47 : decode cX10_flyGeese 47 = .ok (.iload 4, 2) := kD21 (kBe kE_cX10_flyGeese rfl rfl) (kBe kE_cX10_flyGeese rfl rfl)
theorem dX10_flyGeese_49 : decode cX10_flyGeese 49 = .ok (.bipush 8, 2) := kD16 (kBe kE_cX10_flyGeese rfl rfl) (kBe kE_cX10_flyGeese rfl rfl) kS8_8
theorem dX10_flyGeese_51 : decode cX10_flyGeese 51 = .ok (.if_icmp .ne 23, 3) := kD160 (kBe kE_cX10_flyGeese rfl rfl) (kBe kE_cX10_flyGeese rfl rfl) (kBe kE_cX10_flyGeese rfl rfl) kS16_0_23
theorem dX10_flyGeese_54 : decode cX10_flyGeese 54 = .ok (.aload_n 0, 1) := kD42 (kBe kE_cX10_flyGeese rfl rfl)
theorem dX10_flyGeese_55 : decode cX10_flyGeese 55 = .ok (.getfield 21, 3) := kD180 (kBe kE_cX10_flyGeese rfl rfl) (kBe kE_cX10_flyGeese rfl rfl) (kBe kE_cX10_flyGeese rfl rfl)
theorem dX10_flyGeese_58 : decode cX10_flyGeese 58 = .ok (.astore 5, 2) := kD58 (kBe kE_cX10_flyGeese rfl rfl) (kBe kE_cX10_flyGeese rfl rfl)
theorem dX10_flyGeese_60 : decode cX10_flyGeese 60 = .ok (.aload_n 0, 1) := kD42 (kBe kE_cX10_flyGeese rfl rfl)
theorem dX10_flyGeese_61 : decode cX10_flyGeese 61 = .ok (.aload_n 0, 1) := kD42 (kBe kE_cX10_flyGeese rfl rfl)
theorem dX10_flyGeese_62 : decode cX10_flyGeese 62 = .ok (.getfield 24, 3) := kD180 (kBe kE_cX10_flyGeese rfl rfl) (kBe kE_cX10_flyGeese rfl rfl) (kBe kE_cX10_flyGeese rfl rfl)
theorem dX10_flyGeese_65 : decode cX10_flyGeese 65 = .ok (.putfield 21, 3) := kD181 (kBe kE_cX10_flyGeese rfl rfl) (kBe kE_cX10_flyGeese rfl rfl) (kBe kE_cX10_flyGeese rfl rfl)
theorem dX10_flyGeese_68 : decode cX10_flyGeese 68 = .ok (.aload_n 0, 1) := kD42 (kBe kE_cX10_flyGeese rfl rfl)
theorem dX10_flyGeese_69 : decode cX10_flyGeese 69 = .ok (.aload 5, 2) := kD25 (kBe kE_cX10_flyGeese rfl rfl) (kBe kE_cX10_flyGeese rfl rfl)
theorem dX10_flyGeese_71 : decode cX10_flyGeese 71 = .ok (.putfield 24, 3) := kD181 (kBe kE_cX10_flyGeese rfl rfl) (kBe kE_cX10_flyGeese rfl rfl) (kBe kE_cX10_flyGeese rfl rfl)
theorem dX10_flyGeese_74 : decode cX10_flyGeese 74 = .ok (.aload_n 0, 1) := kD42 (kBe kE_cX10_flyGeese rfl rfl)
theorem dX10_flyGeese_75 : decode cX10_flyGeese 75 = .ok (.getfield 21, 3) := kD180 (kBe kE_cX10_flyGeese rfl rfl) (kBe kE_cX10_flyGeese rfl rfl) (kBe kE_cX10_flyGeese rfl rfl)
theorem dX10_flyGeese_78 : decode cX10_flyGeese 78 = .ok (.invokevirtual 94, 3) := kD182 (kBe kE_cX10_flyGeese rfl rfl) (kBe kE_cX10_flyGeese rfl rfl) (kBe kE_cX10_flyGeese rfl rfl)
theorem dX10_flyGeese_81 : decode cX10_flyGeese 81 = .ok (.aload_n 0, 1) := kD42 (kBe kE_cX10_flyGeese rfl rfl)
theorem dX10_flyGeese_82 : decode cX10_flyGeese 82 = .ok (.getfield 24, 3) := kD180 (kBe kE_cX10_flyGeese rfl rfl) (kBe kE_cX10_flyGeese rfl rfl) (kBe kE_cX10_flyGeese rfl rfl)
theorem dX10_flyGeese_85 : decode cX10_flyGeese 85 = .ok (.invokevirtual 94, 3) := kD182 (kBe kE_cX10_flyGeese rfl rfl) (kBe kE_cX10_flyGeese rfl rfl) (kBe kE_cX10_flyGeese rfl rfl)
theorem dX10_flyGeese_88 : decode cX10_flyGeese 88 = .ok (.aload_n 0, 1) := kD42 (kBe kE_cX10_flyGeese rfl rfl)
theorem dX10_flyGeese_89 : decode cX10_flyGeese 89 = .ok (.getfield 21, 3) := kD180 (kBe kE_cX10_flyGeese rfl rfl) (kBe kE_cX10_flyGeese rfl rfl) (kBe kE_cX10_flyGeese rfl rfl)
theorem dX10_flyGeese_92 : decode cX10_flyGeese 92 = .ok (.getfield 97, 3) := kD180 (kBe kE_cX10_flyGeese rfl rfl) (kBe kE_cX10_flyGeese rfl rfl) (kBe kE_cX10_flyGeese rfl rfl)
theorem dX10_flyGeese_95 : decode cX10_flyGeese 95 = .ok (.aload_n 0, 1) := kD42 (kBe kE_cX10_flyGeese rfl rfl)
theorem dX10_flyGeese_96 : decode cX10_flyGeese 96 = .ok (.getfield 69, 3) := kD180 (kBe kE_cX10_flyGeese rfl rfl) (kBe kE_cX10_flyGeese rfl rfl) (kBe kE_cX10_flyGeese rfl rfl)
theorem dX10_flyGeese_99 : decode cX10_flyGeese 99 = .ok (.iconst 1, 1) := kD4 (kBe kE_cX10_flyGeese rfl rfl)
theorem dX10_flyGeese_100 : decode cX10_flyGeese 100 = .ok (.iadd, 1) := kD96 (kBe kE_cX10_flyGeese rfl rfl)
theorem dX10_flyGeese_101 : decode cX10_flyGeese 101 = .ok (.iconst 2, 1) := kD5 (kBe kE_cX10_flyGeese rfl rfl)
theorem dX10_flyGeese_102 : decode cX10_flyGeese 102 = .ok (.idiv, 1) := kD108 (kBe kE_cX10_flyGeese rfl rfl)
theorem dX10_flyGeese_103 : decode cX10_flyGeese 103 = .ok (.if_icmp .lt 19, 3) := kD161 (kBe kE_cX10_flyGeese rfl rfl) (kBe kE_cX10_flyGeese rfl rfl) (kBe kE_cX10_flyGeese rfl rfl) kS16_0_19
theorem dX10_flyGeese_106 : decode cX10_flyGeese 106 = .ok (.aload_n 0, 1) := kD42 (kBe kE_cX10_flyGeese rfl rfl)
theorem dX10_flyGeese_107 : decode cX10_flyGeese 107 = .ok (.getfield 24, 3) := kD180 (kBe kE_cX10_flyGeese rfl rfl) (kBe kE_cX10_flyGeese rfl rfl) (kBe kE_cX10_flyGeese rfl rfl)
theorem dX10_flyGeese_110 : decode cX10_flyGeese 110 = .ok (.getfield 97, 3) := kD180 (kBe kE_cX10_flyGeese rfl rfl) (kBe kE_cX10_flyGeese rfl rfl) (kBe kE_cX10_flyGeese rfl rfl)
theorem dX10_flyGeese_113 : decode cX10_flyGeese 113 = .ok (.aload_n 0, 1) := kD42 (kBe kE_cX10_flyGeese rfl rfl)
theorem dX10_flyGeese_114 : decode cX10_flyGeese 114 = .ok (.getfield 69, 3) := kD180 (kBe kE_cX10_flyGeese rfl rfl) (kBe kE_cX10_flyGeese rfl rfl) (kBe kE_cX10_flyGeese rfl rfl)
theorem dX10_flyGeese_117 : decode cX10_flyGeese 117 = .ok (.iconst 2, 1) := kD5 (kBe kE_cX10_flyGeese rfl rfl)
theorem dX10_flyGeese_118 : decode cX10_flyGeese 118 = .ok (.idiv, 1) := kD108 (kBe kE_cX10_flyGeese rfl rfl)
theorem dX10_flyGeese_119 : decode cX10_flyGeese 119 = .ok (.if_icmp .ge 5, 3) := kD162 (kBe kE_cX10_flyGeese rfl rfl) (kBe kE_cX10_flyGeese rfl rfl) (kBe kE_cX10_flyGeese rfl rfl) kS16_0_5
theorem dX10_flyGeese_122 : decode cX10_flyGeese 122 = .ok (.iload_n 3, 1) := kD29 (kBe kE_cX10_flyGeese rfl rfl)
theorem dX10_flyGeese_123 : decode cX10_flyGeese 123 = .ok (.ireturn, 1) := kD172 (kBe kE_cX10_flyGeese rfl rfl)
theorem dX10_flyGeese_124 : decode cX10_flyGeese 124 = .ok (.iload 4, 2) := kD21 (kBe kE_cX10_flyGeese rfl rfl) (kBe kE_cX10_flyGeese rfl rfl)
theorem dX10_flyGeese_126 : decode cX10_flyGeese 126 = .ok (.bipush 7, 2) := kD16 (kBe kE_cX10_flyGeese rfl rfl) (kBe kE_cX10_flyGeese rfl rfl) kS8_7
theorem dX10_flyGeese_128 : decode cX10_flyGeese 128 = .ok (.if_icmp .ne 26, 3) := kD160 (kBe kE_cX10_flyGeese rfl rfl) (kBe kE_cX10_flyGeese rfl rfl) (kBe kE_cX10_flyGeese rfl rfl) kS16_0_26
theorem dX10_flyGeese_131 : decode cX10_flyGeese 131 = .ok (.iload_n 3, 1) := kD29 (kBe kE_cX10_flyGeese rfl rfl)
theorem dX10_flyGeese_132 : decode cX10_flyGeese 132 = .ok (.iload_n 1, 1) := kD27 (kBe kE_cX10_flyGeese rfl rfl)
theorem dX10_flyGeese_133 : decode cX10_flyGeese 133 = .ok (.if_icmp .lt 7, 3) := kD161 (kBe kE_cX10_flyGeese rfl rfl) (kBe kE_cX10_flyGeese rfl rfl) (kBe kE_cX10_flyGeese rfl rfl) kS16_0_7
theorem dX10_flyGeese_136 : decode cX10_flyGeese 136 = .ok (.iload_n 2, 1) := kD28 (kBe kE_cX10_flyGeese rfl rfl)
theorem dX10_flyGeese_137 : decode cX10_flyGeese 137 = .ok (.ifCond .eq 17, 3) := kD153 (kBe kE_cX10_flyGeese rfl rfl) (kBe kE_cX10_flyGeese rfl rfl) (kBe kE_cX10_flyGeese rfl rfl) kS16_0_17
theorem dX10_flyGeese_140 : decode cX10_flyGeese 140 = .ok (.aload_n 0, 1) := kD42 (kBe kE_cX10_flyGeese rfl rfl)
theorem dX10_flyGeese_141 : decode cX10_flyGeese 141 = .ok (.getfield 21, 3) := kD180 (kBe kE_cX10_flyGeese rfl rfl) (kBe kE_cX10_flyGeese rfl rfl) (kBe kE_cX10_flyGeese rfl rfl)
theorem dX10_flyGeese_144 : decode cX10_flyGeese 144 = .ok (.invokevirtual 100, 3) := kD182 (kBe kE_cX10_flyGeese rfl rfl) (kBe kE_cX10_flyGeese rfl rfl) (kBe kE_cX10_flyGeese rfl rfl)
theorem dX10_flyGeese_147 : decode cX10_flyGeese 147 = .ok (.aload_n 0, 1) := kD42 (kBe kE_cX10_flyGeese rfl rfl)
theorem dX10_flyGeese_148 : decode cX10_flyGeese 148 = .ok (.getfield 24, 3) := kD180 (kBe kE_cX10_flyGeese rfl rfl) (kBe kE_cX10_flyGeese rfl rfl) (kBe kE_cX10_flyGeese rfl rfl)
theorem dX10_flyGeese_151 : decode cX10_flyGeese 151 = .ok (.invokevirtual 100, 3) := kD182 (kBe kE_cX10_flyGeese rfl rfl) (kBe kE_cX10_flyGeese rfl rfl) (kBe kE_cX10_flyGeese rfl rfl)
theorem dX10_flyGeese_154 : decode cX10_flyGeese 154 = .ok (.iinc 3 1, 3) := kD132 (kBe kE_cX10_flyGeese rfl rfl) (kBe kE_cX10_flyGeese rfl rfl) (kBe kE_cX10_flyGeese rfl rfl) kS8_1
theorem dX10_flyGeese_157 : decode cX10_flyGeese 157 = .ok (.goto (-125), 3) := kD167 (kBe kE_cX10_flyGeese rfl rfl) (kBe kE_cX10_flyGeese rfl rfl) (kBe kE_cX10_flyGeese rfl rfl) kS16_255_131
theorem dX10_flyGeese_160 : decode cX10_flyGeese 160 = .ok (.iload_n 1, 1) := kD27 (kBe kE_cX10_flyGeese rfl rfl)
theorem dX10_flyGeese_161 : decode cX10_flyGeese 161 = .ok (.iconst 1, 1) := kD4 (kBe kE_cX10_flyGeese rfl rfl)
theorem dX10_flyGeese_162 : decode cX10_flyGeese 162 = .ok (.iadd, 1) := kD96 (kBe kE_cX10_flyGeese rfl rfl)
theorem dX10_flyGeese_163 : decode cX10_flyGeese 163 = .ok (.ireturn, 1) := kD172 (kBe kE_cX10_flyGeese rfl rfl)
theorem kE_cX10_setOut : kDc cX10_setOut 72988737346779305069367664013978207143019516553414275534687634218 27 := by unfold kDc; decide +kernel
theorem dX10_setOut_0 : decode cX10_setOut 0 = .ok (.aload_n 0, 1) := kD42 (kBe kE_cX10_setOut rfl rfl)
theorem dX10_setOut_1 : decode cX10_setOut 1 = .ok (.iconst 0, 1) := kD3 (kBe kE_cX10_setOut rfl rfl)
theorem dX10_setOut_2 : decode cX10_setOut 2 = .ok (.putfield 103, 3) := kD181 (kBe kE_cX10_setOut rfl rfl) (kBe kE_cX10_setOut rfl rfl) (kBe kE_cX10_setOut rfl rfl)
theorem dX10_setOut_5 : decode cX10_setOut 5 = .ok (.aload_n 0, 1) := kD42 (kBe kE_cX10_setOut rfl rfl)
theorem dX10_setOut_6 : decode cX10_setOut 6 = .ok (.iconst 0, 1) := kD3 (kBe kE_cX10_setOut rfl rfl)
theorem dX10_setOut_7 : decode cX10_setOut 7 = .ok (.putfield 106, 3) := kD181 (kBe kE_cX10_setOut rfl rfl) (kBe kE_cX10_setOut rfl rfl) (kBe kE_cX10_setOut rfl rfl)
theorem dX10_setOut_10 : decode cX10_setOut 10 = .ok (.aload_n 0, 1) := kD42 (kBe kE_cX10_setOut rfl rfl)
theorem dX10_setOut_11 : decode cX10_setOut 11 = .ok (.aload_n 0, 1) := kD42 (kBe kE_cX10_setOut rfl rfl)
theorem dX10_setOut_12 : decode cX10_setOut 12 = .ok (.getfield 48, 3) := kD180 (kBe kE_cX10_setOut rfl rfl) (kBe kE_cX10_setOut rfl rfl) (kBe kE_cX10_setOut rfl rfl)
theorem dX10_setOut_15 : decode cX10_setOut 15 = .ok (.ifCond .eq 7, 3) := kD153 (kBe kE_cX10_setOut rfl rfl) (kBe kE_cX10_setOut rfl rfl) (kBe kE_cX10_setOut rfl rfl) kS16_0_7
theorem dX10_setOut_18 : decode cX10_setOut 18 = .ok (.iconst 0, 1) := kD3 (kBe kE_cX10_setOut rfl rfl)
theorem dX10_setOut_19 : decode cX10_setOut 19 = .ok (.goto 4, 3) := kD167 (kBe kE_cX10_setOut rfl rfl) (kBe kE_cX10_setOut rfl rfl) (kBe kE_cX10_setOut rfl rfl) kS16_0_4
theorem dX10_setOut_22 : decode cX10_setOut 22 = .ok (.iconst 1, 1) := kD4 (kBe kE_cX10_setOut rfl rfl)
theorem dX10_setOut_23 : decode cX10_setOut 23 = .ok (.putfield 109, 3) := kD181 (kBe kE_cX10_setOut rfl rfl) (kBe kE_cX10_setOut rfl rfl) (kBe kE_cX10_setOut rfl rfl)
theorem dX10_setOut_26 : decode cX10_setOut 26 = .ok (.return_, 1) := kD177 (kBe kE_cX10_setOut rfl rfl)
theorem kE_cX10_comesTo : kDc cX10_comesTo 15021766033276661796638172565267700344993322 18 := by unfold kDc; decide +kernel
theorem dX10_comesTo_0 : decode cX10_comesTo 0 = .ok (.aload_n 0, 1) := kD42 (kBe kE_cX10_comesTo rfl rfl)
theorem dX10_comesTo_1 : decode cX10_comesTo 1 = .ok (.invokevirtual 112, 3) := kD182 (kBe kE_cX10_comesTo rfl rfl) (kBe kE_cX10_comesTo rfl rfl) (kBe kE_cX10_comesTo rfl rfl)
theorem dX10_comesTo_4 : decode cX10_comesTo 4 = .ok (.aload_n 0, 1) := kD42 (kBe kE_cX10_comesTo rfl rfl)
theorem dX10_comesTo_5 : decode cX10_comesTo 5 = .ok (.iconst 0, 1) := kD3 (kBe kE_cX10_comesTo rfl rfl)
theorem dX10_comesTo_6 : decode cX10_comesTo 6 = .ok (.aload_n 0, 1) := kD42 (kBe kE_cX10_comesTo rfl rfl)
theorem dX10_comesTo_7 : decode cX10_comesTo 7 = .ok (.getfield 27, 3) := kD180 (kBe kE_cX10_comesTo rfl rfl) (kBe kE_cX10_comesTo rfl rfl) (kBe kE_cX10_comesTo rfl rfl)
theorem dX10_comesTo_10 : decode cX10_comesTo 10 = .ok (.getfield 78, 3) := kD180 (kBe kE_cX10_comesTo rfl rfl) (kBe kE_cX10_comesTo rfl rfl) (kBe kE_cX10_comesTo rfl rfl)
theorem dX10_comesTo_13 : decode cX10_comesTo 13 = .ok (.iload_n 1, 1) := kD27 (kBe kE_cX10_comesTo rfl rfl)
theorem dX10_comesTo_14 : decode cX10_comesTo 14 = .ok (.invokevirtual 113, 3) := kD182 (kBe kE_cX10_comesTo rfl rfl) (kBe kE_cX10_comesTo rfl rfl) (kBe kE_cX10_comesTo rfl rfl)
theorem dX10_comesTo_17 : decode cX10_comesTo 17 = .ok (.ireturn, 1) := kD172 (kBe kE_cX10_comesTo rfl rfl)
theorem kE_cX10_goOn : kDc cX10_goOn 2451346999756530219396818363071943239983161099704702660919295530299034160636162632272875942103472244124967347124624880696271008851253077417839834972925429967523309230084700321695485418230109596411515207527227212908828392559844213944245413820336815020388834724588365017412783806177936658474687678476581151568806998481531841391956693671746819 141 := by unfold kDc; decide +kernel
theorem dX10_goOn_0 : decode cX10_goOn 0 = .ok (.iconst 0, 1) := kD3 (kBe kE_cX10_goOn rfl rfl)
theorem dX10_goOn_1 : decode cX10_goOn 1 = .ok (.iload_n 3, 1) := kD29 (kBe kE_cX10_goOn rfl rfl)
theorem dX10_goOn_2 : decode cX10_goOn 2 = .ok (.iconst 5, 1) := kD8 (kBe kE_cX10_goOn rfl rfl)
theorem dX10_goOn_3 : decode cX10_goOn 3 = .ok (.isub, 1) := kD100 (kBe kE_cX10_goOn rfl rfl)
theorem dX10_goOn_4 : decode cX10_goOn 4 = .ok (.invokestatic 117, 3) := kD184 (kBe kE_cX10_goOn rfl rfl) (kBe kE_cX10_goOn rfl rfl) (kBe kE_cX10_goOn rfl rfl)
theorem dX10_goOn_7 : decode cX10_goOn 7 = .ok (.istore 4, 2) := kD54 (kBe kE_cX10_goOn rfl rfl) (kBe kE_cX10_goOn rfl rfl)
theorem dX10_goOn_9 : decode cX10_goOn 9 = .ok (.iload_n 1, 1) := kD27 (kBe kE_cX10_goOn rfl rfl)
theorem dX10_goOn_10 : decode cX10_goOn 10 = .ok (.istore 5, 2) := kD54 (kBe kE_cX10_goOn rfl rfl) (kBe kE_cX10_goOn rfl rfl)
theorem dX10_goOn_12 : decode cX10_goOn 12 = .ok (.iload 5, 2) := kD21 (kBe kE_cX10_goOn rfl rfl) (kBe kE_cX10_goOn rfl rfl)
theorem dX10_goOn_14 : decode cX10_goOn 14 = .ok (.iload_n 2, 1) := kD28 (kBe kE_cX10_goOn rfl rfl)
theorem dX10_goOn_15 : decode cX10_goOn 15 = .ok (.if_icmp .ge 124, 3) := kD162 (kBe kE_cX10_goOn rfl rfl) (kBe kE_cX10_goOn rfl rfl) (kBe kE_cX10_goOn rfl rfl) kS16_0_124
theorem dX10_goOn_18 : decode cX10_goOn 18 = .ok (.iload 5, 2) := kD21 (kBe kE_cX10_goOn rfl rfl) (kBe kE_cX10_goOn rfl rfl)
theorem dX10_goOn_20 : decode cX10_goOn 20 = .ok (.aload_n 0, 1) := kD42 (kBe kE_cX10_goOn rfl rfl)
theorem dX10_goOn_21 : decode cX10_goOn 21 = .ok (.getfield 52, 3) := kD180 (kBe kE_cX10_goOn rfl rfl) (kBe kE_cX10_goOn rfl rfl) (kBe kE_cX10_goOn rfl rfl)
theorem dX10_goOn_24 : decode cX10_goOn 24 = .ok (.if_icmp .lt 11, 3) := kD161 (kBe kE_cX10_goOn rfl rfl) (kBe kE_cX10_goOn rfl rfl) (kBe kE_cX10_goOn rfl rfl) kS16_0_11
theorem dX10_goOn_27 : decode cX10_goOn 27 = .ok (.aload_n 0, 1) := kD42 (kBe kE_cX10_goOn rfl rfl)
theorem dX10_goOn_28 : decode cX10_goOn 28 = .ok (.iconst 1, 1) := kD4 (kBe kE_cX10_goOn rfl rfl)
theorem dX10_goOn_29 : decode cX10_goOn 29 = .ok (.putfield 109, 3) := kD181 (kBe kE_cX10_goOn rfl rfl) (kBe kE_cX10_goOn rfl rfl) (kBe kE_cX10_goOn rfl rfl)
theorem dX10_goOn_32 : decode cX10_goOn 32 = .ok (.iload 5, 2) := kD21 (kBe kE_cX10_goOn rfl rfl) (kBe kE_cX10_goOn rfl rfl)
theorem dX10_goOn_34 : decode cX10_goOn 34 = .ok (.ireturn, 1) := kD172 (kBe kE_cX10_goOn rfl rfl)
theorem dX10_goOn_35 : decode cX10_goOn 35 = .ok (.aload_n 0, 1) := kD42 (kBe kE_cX10_goOn rfl rfl)
theorem dX10_goOn_36 : decode cX10_goOn 36 = .ok (.dup, 1) := kD89 (kBe kE_cX10_goOn rfl rfl)
theorem dX10_goOn_37 : decode cX10_goOn 37 = .ok (.getfield 106, 3) := kD180 (kBe kE_cX10_goOn rfl rfl) (kBe kE_cX10_goOn rfl rfl) (kBe kE_cX10_goOn rfl rfl)
theorem dX10_goOn_40 : decode cX10_goOn 40 = .ok (.iload 4, 2) := kD21 (kBe kE_cX10_goOn rfl rfl) (kBe kE_cX10_goOn rfl rfl)
theorem dX10_goOn_42 : decode cX10_goOn 42 = .ok (.iadd, 1) := kD96 (kBe kE_cX10_goOn rfl rfl)
theorem dX10_goOn_43 : decode cX10_goOn 43 = .ok (.putfield 106, 3) := kD181 (kBe kE_cX10_goOn rfl rfl) (kBe kE_cX10_goOn rfl rfl) (kBe kE_cX10_goOn rfl rfl)
theorem dX10_goOn_46 : decode cX10_goOn 46 = .ok (.aload_n 0, 1) := kD42 (kBe kE_cX10_goOn rfl rfl)
theorem dX10_goOn_47 : decode cX10_goOn 47 = .ok (.getfield 106, 3) := kD180 (kBe kE_cX10_goOn rfl rfl) (kBe kE_cX10_goOn rfl rfl) (kBe kE_cX10_goOn rfl rfl)
theorem dX10_goOn_50 : decode cX10_goOn 50 = .ok (.bipush 20, 2) := kD16 (kBe kE_cX10_goOn rfl rfl) (kBe kE_cX10_goOn rfl rfl) kS8_20
theorem dX10_goOn_52 : decode cX10_goOn 52 = .ok (.if_icmp .le 11, 3) := kD164 (kBe kE_cX10_goOn rfl rfl) (kBe kE_cX10_goOn rfl rfl) (kBe kE_cX10_goOn rfl rfl) kS16_0_11
theorem dX10_goOn_55 : decode cX10_goOn 55 = .ok (.aload_n 0, 1) := kD42 (kBe kE_cX10_goOn rfl rfl)
theorem dX10_goOn_56 : decode cX10_goOn 56 = .ok (.iconst 2, 1) := kD5 (kBe kE_cX10_goOn rfl rfl)
theorem dX10_goOn_57 : decode cX10_goOn 57 = .ok (.putfield 109, 3) := kD181 (kBe kE_cX10_goOn rfl rfl) (kBe kE_cX10_goOn rfl rfl) (kBe kE_cX10_goOn rfl rfl)
theorem dX10_goOn_60 : decode cX10_goOn 60 = .ok (.iload 5, 2) := kD21 (kBe kE_cX10_goOn rfl rfl) (kBe kE_cX10_goOn rfl rfl)
theorem dX10_goOn_62 : decode cX10_goOn 62 = .ok (.ireturn, 1) := kD172 (kBe kE_cX10_goOn rfl rfl)
theorem dX10_goOn_63 : decode cX10_goOn 63 = .ok (.aload_n 0, 1) := kD42 (kBe kE_cX10_goOn rfl rfl)
theorem dX10_goOn_64 : decode cX10_goOn 64 = .ok (.getfield 27, 3) := kD180 (kBe kE_cX10_goOn rfl rfl) (kBe kE_cX10_goOn rfl rfl) (kBe kE_cX10_goOn rfl rfl)
theorem dX10_goOn_67 : decode cX10_goOn 67 = .ok (.iload 5, 2) := kD21 (kBe kE_cX10_goOn rfl rfl) (kBe kE_cX10_goOn rfl rfl)
theorem dX10_goOn_69 : decode cX10_goOn 69 = .ok (.invokevirtual 90, 3) := kD182 (kBe kE_cX10_goOn rfl rfl) (kBe kE_cX10_goOn rfl rfl) (kBe kE_cX10_goOn rfl rfl)
theorem dX10_goOn_72 : decode cX10_goOn 72 = .ok (.istore 6, 2) := kD54 (kBe kE_cX10_goOn rfl rfl) (kBe kE_cX10_goOn rfl rfl)
theorem dX10_goOn_74 : decode cX10_goOn 74 = .ok (.iload 6, 2) := kD21 (kBe kE_cX10_goOn rfl rfl) (kBe kE_cX10_goOn rfl rfl)
theorem dX10_goOn_76 : decode cX10_goOn 76 = .ok (.bipush 6, 2) := kD16 (kBe kE_cX10_goOn rfl rfl) (kBe kE_cX10_goOn rfl rfl) kS8_6
theorem dX10_goOn_78 : decode cX10_goOn 78 = .ok (.if_icmp .ge 38, 3) := kD162 (kBe kE_cX10_goOn rfl rfl) (kBe kE_cX10_goOn rfl rfl) (kBe kE_cX10_goOn rfl rfl) kS16_0_38
theorem dX10_goOn_81 : decode cX10_goOn 81 = .ok (.aload_n 0, 1) := kD42 (kBe kE_cX10_goOn rfl rfl)
theorem dX10_goOn_82 : decode cX10_goOn 82 = .ok (.dup, 1) := kD89 (kBe kE_cX10_goOn rfl rfl)
theorem dX10_goOn_83 : decode cX10_goOn 83 = .ok (.getfield 103, 3) := kD180 (kBe kE_cX10_goOn rfl rfl) (kBe kE_cX10_goOn rfl rfl) (kBe kE_cX10_goOn rfl rfl)
theorem dX10_goOn_86 : decode cX10_goOn 86 = .ok (.aload_n 0, 1) := kD42 (kBe kE_cX10_goOn rfl rfl)
theorem dX10_goOn_87 : decode cX10_goOn 87 = .ok (.iload 6, 2) := kD21 (kBe kE_cX10_goOn rfl rfl) (kBe kE_cX10_goOn rfl rfl)
theorem dX10_goOn_89 : decode cX10_goOn 89 = .ok (.iload_n 3, 1) := kD29 (kBe kE_cX10_goOn rfl rfl)
theorem dX10_goOn_90 : decode cX10_goOn 90 = .ok (.invokevirtual 122, 3) := kD182 (kBe kE_cX10_goOn rfl rfl) (kBe kE_cX10_goOn rfl rfl) (kBe kE_cX10_goOn rfl rfl)
theorem dX10_goOn_93 : decode cX10_goOn 93 = .ok (.iadd, 1) := kD96 (kBe kE_cX10_goOn rfl rfl)
theorem dX10_goOn_94 : decode cX10_goOn 94 = .ok (.putfield 103, 3) := kD181 (kBe kE_cX10_goOn rfl rfl) (kBe kE_cX10_goOn rfl rfl) (kBe kE_cX10_goOn rfl rfl)
theorem dX10_goOn_97 : decode cX10_goOn 97 = .ok (.aload_n 0, 1) := kD42 (kBe kE_cX10_goOn rfl rfl)
theorem dX10_goOn_98 : decode cX10_goOn 98 = .ok (.getfield 103, 3) := kD180 (kBe kE_cX10_goOn rfl rfl) (kBe kE_cX10_goOn rfl rfl) (kBe kE_cX10_goOn rfl rfl)
theorem dX10_goOn_101 : decode cX10_goOn 101 = .ok (.aload_n 0, 1) := kD42 (kBe kE_cX10_goOn rfl rfl)
theorem dX10_goOn_102 : decode cX10_goOn 102 = .ok (.getfield 66, 3) := kD180 (kBe kE_cX10_goOn rfl rfl) (kBe kE_cX10_goOn rfl rfl) (kBe kE_cX10_goOn rfl rfl)
theorem dX10_goOn_105 : decode cX10_goOn 105 = .ok (.if_icmp .le 28, 3) := kD164 (kBe kE_cX10_goOn rfl rfl) (kBe kE_cX10_goOn rfl rfl) (kBe kE_cX10_goOn rfl rfl) kS16_0_28
theorem dX10_goOn_108 : decode cX10_goOn 108 = .ok (.aload_n 0, 1) := kD42 (kBe kE_cX10_goOn rfl rfl)
theorem dX10_goOn_109 : decode cX10_goOn 109 = .ok (.iconst 3, 1) := kD6 (kBe kE_cX10_goOn rfl rfl)
theorem dX10_goOn_110 : decode cX10_goOn 110 = .ok (.putfield 109, 3) := kD181 (kBe kE_cX10_goOn rfl rfl) (kBe kE_cX10_goOn rfl rfl) (kBe kE_cX10_goOn rfl rfl)
theorem dX10_goOn_113 : decode cX10_goOn 113 = .ok (.iload 5, 2) := kD21 (kBe kE_cX10_goOn rfl rfl) (kBe kE_cX10_goOn rfl rfl)
theorem dX10_goOn_115 : decode cX10_goOn 115 = .ok (.ireturn, 1) := kD172 (kBe kE_cX10_goOn rfl rfl)
theorem dX10_goOn_116 : decode cX10_goOn 116 = .ok (.iload 6, 2) := kD21 (kBe kE_cX10_goOn rfl rfl) (kBe kE_cX10_goOn rfl rfl)
theorem dX10_goOn_118 : decode cX10_goOn 118 = .ok (.bipush 7, 2) := kD16 (kBe kE_cX10_goOn rfl rfl) (kBe kE_cX10_goOn rfl rfl) kS8_7
theorem dX10_goOn_120 : decode cX10_goOn 120 = .ok (.if_icmp .ne 13, 3) := kD160 (kBe kE_cX10_goOn rfl rfl) (kBe kE_cX10_goOn rfl rfl) (kBe kE_cX10_goOn rfl rfl) kS16_0_13
theorem dX10_goOn_123 : decode cX10_goOn 123 = .ok (.aload_n 0, 1) := kD42 (kBe kE_cX10_goOn rfl rfl)
theorem dX10_goOn_124 : decode cX10_goOn 124 = .ok (.iconst 0, 1) := kD3 (kBe kE_cX10_goOn rfl rfl)
theorem dX10_goOn_125 : decode cX10_goOn 125 = .ok (.putfield 103, 3) := kD181 (kBe kE_cX10_goOn rfl rfl) (kBe kE_cX10_goOn rfl rfl) (kBe kE_cX10_goOn rfl rfl)
theorem dX10_goOn_128 : decode cX10_goOn 128 = .ok (.aload_n 0, 1) := kD42 (kBe kE_cX10_goOn rfl rfl)
theorem dX10_goOn_129 : decode cX10_goOn 129 = .ok (.iconst 0, 1) := kD3 (kBe kE_cX10_goOn rfl rfl)
theorem dX10_goOn_130 : decode cX10_goOn 130 = .ok (.putfield 106, 3) := kD181 (kBe kE_cX10_goOn rfl rfl) (kBe kE_cX10_goOn rfl rfl) (kBe kE_cX10_goOn rfl rfl)
theorem dX10_goOn_133 : decode cX10_goOn 133 = .ok (.iinc 5 1, 3) := kD132 (kBe kE_cX10_goOn rfl rfl) (kBe kE_cX10_goOn rfl rfl) (kBe kE_cX10_goOn rfl rfl) kS8_1
theorem dX10_goOn_136 : decode cX10_goOn 136 = .ok (.goto (-124), 3) := kD167 (kBe kE_cX10_goOn rfl rfl) (kBe kE_cX10_goOn rfl rfl) (kBe kE_cX10_goOn rfl rfl) kS16_255_132
theorem dX10_goOn_139 : decode cX10_goOn 139 = .ok (.iload_n 2, 1) := kD28 (kBe kE_cX10_goOn rfl rfl)
theorem dX10_goOn_140 : decode cX10_goOn 140 = .ok (.ireturn, 1) := kD172 (kBe kE_cX10_goOn rfl rfl)
theorem kE_cX10_insult : kDc cX10_insult 10897628686311431883631846113680620584688289205628648901397952683597884830854847960162853938559084805437102874305078719509334870246085898897438017909226621852477841166321502434346 74 := by unfold kDc; decide +kernel
theorem dX10_insult_0 : decode cX10_insult 0 = .ok (.aload_n 0, 1) := kD42 (kBe kE_cX10_insult rfl rfl)
theorem dX10_insult_1 : decode cX10_insult 1 = .ok (.getfield 125, 3) := kD180 (kBe kE_cX10_insult rfl rfl) (kBe kE_cX10_insult rfl rfl) (kBe kE_cX10_insult rfl rfl)
theorem dX10_insult_4 : decode cX10_insult 4 = .ok (.iload_n 1, 1) := kD27 (kBe kE_cX10_insult rfl rfl)
theorem dX10_insult_5 : decode cX10_insult 5 = .ok (.ishr, 1) := kD122 (kBe kE_cX10_insult rfl rfl)
theorem dX10_insult_6 : decode cX10_insult 6 = .ok (.iconst 1, 1) := kD4 (kBe kE_cX10_insult rfl rfl)
theorem dX10_insult_7 : decode cX10_insult 7 = .ok (.iand, 1) := kD126 (kBe kE_cX10_insult rfl rfl)
theorem dX10_insult_8 : decode cX10_insult 8 = .ok (.iconst 1, 1) := kD4 (kBe kE_cX10_insult rfl rfl)
theorem dX10_insult_9 : decode cX10_insult 9 = .ok (.if_icmp .eq 25, 3) := kD159 (kBe kE_cX10_insult rfl rfl) (kBe kE_cX10_insult rfl rfl) (kBe kE_cX10_insult rfl rfl) kS16_0_25
theorem dX10_insult_12 : decode cX10_insult 12 = .ok (.aload_n 0, 1) := kD42 (kBe kE_cX10_insult rfl rfl)
theorem dX10_insult_13 : decode cX10_insult 13 = .ok (.getfield 60, 3) := kD180 (kBe kE_cX10_insult rfl rfl) (kBe kE_cX10_insult rfl rfl) (kBe kE_cX10_insult rfl rfl)
theorem dX10_insult_16 : decode cX10_insult 16 = .ok (.iconst 1, 1) := kD4 (kBe kE_cX10_insult rfl rfl)
theorem dX10_insult_17 : decode cX10_insult 17 = .ok (.if_icmp .eq 17, 3) := kD159 (kBe kE_cX10_insult rfl rfl) (kBe kE_cX10_insult rfl rfl) (kBe kE_cX10_insult rfl rfl) kS16_0_17
theorem dX10_insult_20 : decode cX10_insult 20 = .ok (.aload_n 0, 1) := kD42 (kBe kE_cX10_insult rfl rfl)
theorem dX10_insult_21 : decode cX10_insult 21 = .ok (.getfield 60, 3) := kD180 (kBe kE_cX10_insult rfl rfl) (kBe kE_cX10_insult rfl rfl) (kBe kE_cX10_insult rfl rfl)
theorem dX10_insult_24 : decode cX10_insult 24 = .ok (.iconst 3, 1) := kD6 (kBe kE_cX10_insult rfl rfl)
theorem dX10_insult_25 : decode cX10_insult 25 = .ok (.if_icmp .ne 11, 3) := kD160 (kBe kE_cX10_insult rfl rfl) (kBe kE_cX10_insult rfl rfl) (kBe kE_cX10_insult rfl rfl) kS16_0_11
theorem dX10_insult_28 : decode cX10_insult 28 = .ok (.iload_n 2, 1) := kD28 (kBe kE_cX10_insult rfl rfl)
theorem dX10_insult_29 : decode cX10_insult 29 = .ok (.bipush 7, 2) := kD16 (kBe kE_cX10_insult rfl rfl) (kBe kE_cX10_insult rfl rfl) kS8_7
theorem dX10_insult_31 : decode cX10_insult 31 = .ok (.if_icmp .lt 5, 3) := kD161 (kBe kE_cX10_insult rfl rfl) (kBe kE_cX10_insult rfl rfl) (kBe kE_cX10_insult rfl rfl) kS16_0_5
theorem dX10_insult_34 : decode cX10_insult 34 = .ok (.iconst 0, 1) := kD3 (kBe kE_cX10_insult rfl rfl)
theorem dX10_insult_35 : decode cX10_insult 35 = .ok (.ireturn, 1) := kD172 (kBe kE_cX10_insult rfl rfl)
theorem dX10_insult_36 : decode cX10_insult 36 = .ok (.iload_n 1, 1) := kD27 (kBe kE_cX10_insult rfl rfl)
theorem dX10_insult_37 : decode cX10_insult 37 = .ok (.aload_n 0, 1) := kD42 (kBe kE_cX10_insult rfl rfl)
theorem dX10_insult_38 : decode cX10_insult 38 = .ok (.getfield 63, 3) := kD180 (kBe kE_cX10_insult rfl rfl) (kBe kE_cX10_insult rfl rfl) (kBe kE_cX10_insult rfl rfl)
theorem dX10_insult_41 : decode cX10_insult 41 = .ok (.if_icmp .ne 12, 3) := kD160 (kBe kE_cX10_insult rfl rfl) (kBe kE_cX10_insult rfl rfl) (kBe kE_cX10_insult rfl rfl) kS16_0_12
theorem dX10_insult_44 : decode cX10_insult 44 = .ok (.iconst 2, 1) := kD5 (kBe kE_cX10_insult rfl rfl)
theorem dX10_insult_45 : decode cX10_insult 45 = .ok (.bipush 10, 2) := kD16 (kBe kE_cX10_insult rfl rfl) (kBe kE_cX10_insult rfl rfl) kS8_10
theorem dX10_insult_47 : decode cX10_insult 47 = .ok (.iload_n 2, 1) := kD28 (kBe kE_cX10_insult rfl rfl)
theorem dX10_insult_48 : decode cX10_insult 48 = .ok (.isub, 1) := kD100 (kBe kE_cX10_insult rfl rfl)
theorem dX10_insult_49 : decode cX10_insult 49 = .ok (.imul, 1) := kD104 (kBe kE_cX10_insult rfl rfl)
theorem dX10_insult_50 : decode cX10_insult 50 = .ok (.goto 7, 3) := kD167 (kBe kE_cX10_insult rfl rfl) (kBe kE_cX10_insult rfl rfl) (kBe kE_cX10_insult rfl rfl) kS16_0_7
theorem dX10_insult_53 : decode cX10_insult 53 = .ok (.bipush 10, 2) := kD16 (kBe kE_cX10_insult rfl rfl) (kBe kE_cX10_insult rfl rfl) kS8_10
theorem dX10_insult_55 : decode cX10_insult 55 = .ok (.iload_n 2, 1) := kD28 (kBe kE_cX10_insult rfl rfl)
theorem dX10_insult_56 : decode cX10_insult 56 = .ok (.isub, 1) := kD100 (kBe kE_cX10_insult rfl rfl)
theorem dX10_insult_57 : decode cX10_insult 57 = .ok (.istore_n 3, 1) := kD62 (kBe kE_cX10_insult rfl rfl)
theorem dX10_insult_58 : decode cX10_insult 58 = .ok (.aload_n 0, 1) := kD42 (kBe kE_cX10_insult rfl rfl)
theorem dX10_insult_59 : decode cX10_insult 59 = .ok (.getfield 60, 3) := kD180 (kBe kE_cX10_insult rfl rfl) (kBe kE_cX10_insult rfl rfl) (kBe kE_cX10_insult rfl rfl)
theorem dX10_insult_62 : decode cX10_insult 62 = .ok (.iconst 2, 1) := kD5 (kBe kE_cX10_insult rfl rfl)
theorem dX10_insult_63 : decode cX10_insult 63 = .ok (.if_icmp .ne 9, 3) := kD160 (kBe kE_cX10_insult rfl rfl) (kBe kE_cX10_insult rfl rfl) (kBe kE_cX10_insult rfl rfl) kS16_0_9
theorem dX10_insult_66 : decode cX10_insult 66 = .ok (.iload_n 3, 1) := kD29 (kBe kE_cX10_insult rfl rfl)
theorem dX10_insult_67 : decode cX10_insult 67 = .ok (.iconst 1, 1) := kD4 (kBe kE_cX10_insult rfl rfl)
theorem dX10_insult_68 : decode cX10_insult 68 = .ok (.iadd, 1) := kD96 (kBe kE_cX10_insult rfl rfl)
theorem dX10_insult_69 : decode cX10_insult 69 = .ok (.goto 4, 3) := kD167 (kBe kE_cX10_insult rfl rfl) (kBe kE_cX10_insult rfl rfl) (kBe kE_cX10_insult rfl rfl) kS16_0_4
theorem dX10_insult_72 : decode cX10_insult 72 = .ok (.iload_n 3, 1) := kD29 (kBe kE_cX10_insult rfl rfl)
theorem dX10_insult_73 : decode cX10_insult 73 = .ok (.ireturn, 1) := kD172 (kBe kE_cX10_insult rfl rfl)
theorem kE_cX11_init : kDc cX11_init 242718966512072066112724039039883367580169740251984093894566721858847492832400784861290859397623147647843790303955324769831865068716492572163901611874646590099479589534679096162283335323560322488648801049938210275871206225634711198386340677869495893607769070061021630912558718188759475244403983113583156551822072783711499299949161184859497375678298389687496558946035948828820644700298038785834 163 := by unfold kDc; decide +kernel
theorem dX11_init_0 : decode cX11_init 0 = .ok (.aload_n 0, 1) := kD42 (kBe kE_cX11_init rfl rfl)
theorem dX11_init_1 : decode cX11_init 1 = .ok (.invokespecial 1, 3) := kD183 (kBe kE_cX11_init rfl rfl) (kBe kE_cX11_init rfl rfl) (kBe kE_cX11_init rfl rfl)
theorem dX11_init_4 : decode cX11_init 4 = .ok (.aload_n 0, 1) := kD42 (kBe kE_cX11_init rfl rfl)
theorem dX11_init_5 : decode cX11_init 5 = .ok (.new 7, 3) := kD187 (kBe kE_cX11_init rfl rfl) (kBe kE_cX11_init rfl rfl) (kBe kE_cX11_init rfl rfl)
theorem dX11_init_8 : decode cX11_init 8 = .ok (.dup, 1) := kD89 (kBe kE_cX11_init rfl rfl)
theorem dX11_init_9 : decode cX11_init 9 = .ok (.invokespecial 9, 3) := kD183 (kBe kE_cX11_init rfl rfl) (kBe kE_cX11_init rfl rfl) (kBe kE_cX11_init rfl rfl)
theorem dX11_init_12 : decode cX11_init 12 = .ok (.putfield 10, 3) := kD181 (kBe kE_cX11_init rfl rfl) (kBe kE_cX11_init rfl rfl) (kBe kE_cX11_init rfl rfl)
theorem dX11_init_15 : decode cX11_init 15 = .ok (.aload_n 0, 1) := kD42 (kBe kE_cX11_init rfl rfl)
theorem dX11_init_16 : decode cX11_init 16 = .ok (.new 16, 3) := kD187 (kBe kE_cX11_init rfl rfl) (kBe kE_cX11_init rfl rfl) (kBe kE_cX11_init rfl rfl)
theorem dX11_init_19 : decode cX11_init 19 = .ok (.dup, 1) := kD89 (kBe kE_cX11_init rfl rfl)
theorem dX11_init_20 : decode cX11_init 20 = .ok (.invokespecial 18, 3) := kD183 (kBe kE_cX11_init rfl rfl) (kBe kE_cX11_init rfl rfl) (kBe kE_cX11_init rfl rfl)
theorem dX11_init_23 : decode cX11_init 23 = .ok (.putfield 19, 3) := kD181 (kBe kE_cX11_init rfl rfl) (kBe kE_cX11_init rfl rfl) (kBe kE_cX11_init rfl rfl)
theorem dX11_init_26 : decode cX11_init 26 = .ok (.aload_n 0, 1) := kD42 (kBe kE_cX11_init rfl rfl)
theorem dX11_init_27 : decode cX11_init 27 = .ok (.new 23, 3) := kD187 (kBe kE_cX11_init rfl rfl) (kBe kE_cX11_init rfl rfl) (kBe kE_cX11_init rfl rfl)
theorem dX11_init_30 : decode cX11_init 30 = .ok (.dup, 1) := kD89 (kBe kE_cX11_init rfl rfl)
theorem dX11_init_31 : decode cX11_init 31 = .ok (.invokespecial 25, 3) := kD183 (kBe kE_cX11_init rfl rfl) (kBe kE_cX11_init rfl rfl) (kBe kE_cX11_init rfl rfl)
theorem dX11_init_34 : decode cX11_init 34 = .ok (.putfield 26, 3) := kD181 (kBe kE_cX11_init rfl rfl) (kBe kE_cX11_init rfl rfl) (kBe kE_cX11_init rfl rfl)
theorem dX11_init_37 : decode cX11_init 37 = .ok (.aload_n 0, 1) := kD42 (kBe kE_cX11_init rfl rfl)
theorem dX11_init_38 : decode cX11_init 38 = .ok (.new 30, 3) := kD187 (kBe kE_cX11_init rfl rfl) (kBe kE_cX11_init rfl rfl) (kBe kE_cX11_init rfl rfl)
theorem dX11_init_41 : decode cX11_init 41 = .ok (.dup, 1) := kD89 (kBe kE_cX11_init rfl rfl)
theorem dX11_init_42 : decode cX11_init 42 = .ok (.invokespecial 32, 3) := kD183 (kBe kE_cX11_init rfl rfl) (kBe kE_cX11_init rfl rfl) (kBe kE_cX11_init rfl rfl)
theorem dX11_init_45 : decode cX11_init 45 = .ok (.putfield 33, 3) := kD181 (kBe kE_cX11_init rfl rfl) (kBe kE_cX11_init rfl rfl) (kBe kE_cX11_init rfl rfl)
theorem dX11_init_48 : decode cX11_init 48 = .ok (.aload_n 0, 1) := kD42 (kBe kE_cX11_init rfl rfl)
theorem dX11_init_49 : decode cX11_init 49 = .ok (.new 37, 3) := kD187 (kBe kE_cX11_init rfl rfl) (kBe kE_cX11_init rfl rfl) (kBe kE_cX11_init rfl rfl)
theorem dX11_init_52 : decode cX11_init 52 = .ok (.dup, 1) := kD89 (kBe kE_cX11_init rfl rfl)
theorem dX11_init_53 : decode cX11_init 53 = .ok (.aload_n 0, 1) := kD42 (kBe kE_cX11_init rfl rfl)
theorem dX11_init_54 : decode cX11_init 54 = .ok (.getfield 10, 3) := kD180 (kBe kE_cX11_init rfl rfl) (kBe kE_cX11_init rfl rfl) (kBe kE_cX11_init rfl rfl)
theorem dX11_init_57 : decode cX11_init 57 = .ok (.aload_n 0, 1) := kD42 (kBe kE_cX11_init rfl rfl)
theorem dX11_init_58 : decode cX11_init 58 = .ok (.getfield 19, 3) := kD180 (kBe kE_cX11_init rfl rfl) (kBe kE_cX11_init rfl rfl) (kBe kE_cX11_init rfl rfl)
theorem dX11_init_61 : decode cX11_init 61 = .ok (.aload_n 0, 1) := kD42 (kBe kE_cX11_init rfl rfl)
theorem dX11_init_62 : decode cX11_init 62 = .ok (.getfield 26, 3) := kD180 (kBe kE_cX11_init rfl rfl) (kBe kE_cX11_init rfl rfl) (kBe kE_cX11_init rfl rfl)
theorem dX11_init_65 : decode cX11_init 65 = .ok (.invokespecial 39, 3) := kD183 (kBe kE_cX11_init rfl rfl) (kBe kE_cX11_init rfl rfl) (kBe kE_cX11_init rfl rfl)
theorem dX11_init_68 : decode cX11_init 68 = .ok (.putfield 42, 3) := kD181 (kBe kE_cX11_init rfl rfl) (kBe kE_cX11_init rfl rfl) (kBe kE_cX11_init rfl rfl)
theorem dX11_init_71 : decode cX11_init 71 = .ok (.aload_n 0, 1) := kD42 (kBe kE_cX11_init rfl rfl)
theorem dX11_init_72 : decode cX11_init 72 = .ok (.new 46, 3) := kD187 (kBe kE_cX11_init rfl rfl) (kBe kE_cX11_init rfl rfl) (kBe kE_cX11_init rfl rfl)
theorem dX11_init_75 : decode cX11_init 75 = .ok (.dup, 1) := kD89 (kBe kE_cX11_init rfl rfl)
theorem dX11_init_76 : decode cX11_init 76 = .ok (.invokespecial 48, 3) := kD183 (kBe kE_cX11_init rfl rfl) (kBe kE_cX11_init rfl rfl) (kBe kE_cX11_init rfl rfl)
theorem dX11_init_79 : decode cX11_init 79 = .ok (.putfield 49, 3) := kD181 (kBe kE_cX11_init rfl rfl) (kBe kE_cX11_init rfl rfl) (kBe kE_cX11_init rfl rfl)
theorem dX11_init_82 : decode cX11_init 82 = .ok (.aload_n 0, 1) := kD42 (kBe kE_cX11_init rfl rfl)
theorem dX11_init_83 : decode cX11_init 83 = .ok (.new 53, 3) := kD187 (kBe kE_cX11_init rfl rfl) (kBe kE_cX11_init rfl rfl) (kBe kE_cX11_init rfl rfl)
theorem dX11_init_86 : decode cX11_init 86 = .ok (.dup, 1) := kD89 (kBe kE_cX11_init rfl rfl)
theorem dX11_init_87 : decode cX11_init 87 = .ok (.invokespecial 55, 3) := kD183 (kBe kE_cX11_init rfl rfl) (kBe kE_cX11_init rfl rfl) (kBe kE_cX11_init rfl rfl)
theorem dX11_init_90 : decode cX11_init 90 = .ok (.putfield 56, 3) := kD181 (kBe kE_cX11_init rfl rfl) (kBe kE_cX11_init rfl rfl) (kBe kE_cX11_init rfl rfl)
theorem dX11_init_93 : decode cX11_init 93 = .ok (.aload_n 0, 1) := kD42 (kBe kE_cX11_init rfl rfl)
theorem dX11_init_94 : decode cX11_init 94 = .ok (.new 60, 3) := kD187 (kBe kE_cX11_init rfl rfl) (kBe kE_cX11_init rfl rfl) (kBe kE_cX11_init rfl rfl)
theorem dX11_init_97 : decode cX11_init 97 = .ok (.dup, 1) := kD89 (kBe kE_cX11_init rfl rfl)
theorem dX11_init_98 : decode cX11_init 98 = .ok (.invokespecial 62, 3) := kD183 (kBe kE_cX11_init rfl rfl) (kBe kE_cX11_init rfl rfl) (kBe kE_cX11_init rfl rfl)
theorem dX11_init_101 : decode cX11_init 101 = .ok (.putfield 63, 3) := kD181 (kBe kE_cX11_init rfl rfl) (kBe kE_cX11_init rfl rfl) (kBe kE_cX11_init rfl rfl)
theorem dX11_init_104 : decode cX11_init 104 = .ok (.aload_n 0, 1) := kD42 (kBe kE_cX11_init rfl rfl)
theorem dX11_init_105 : decode cX11_init 105 = .ok (.bipush 8, 2) := kD16 (kBe kE_cX11_init rfl rfl) (kBe kE_cX11_init rfl rfl) kS8_8
theorem dX11_init_107 : decode cX11_init 107 = .ok (.newarray .int, 2) := kD188_10 (kBe kE_cX11_init rfl rfl) (kBe kE_cX11_init rfl rfl)
theorem dX11_init_109 : decode cX11_init 109 = .ok (.putfield 67, 3) := kD181 (kBe kE_cX11_init rfl rfl) (kBe kE_cX11_init rfl rfl) (kBe kE_cX11_init rfl rfl)
theorem dX11_init_112 : decode cX11_init 112 = .ok (.aload_n 0, 1) := kD42 (kBe kE_cX11_init rfl rfl)
theorem dX11_init_113 : decode cX11_init 113 = .ok (.bipush 8, 2) := kD16 (kBe kE_cX11_init rfl rfl) (kBe kE_cX11_init rfl rfl) kS8_8
theorem dX11_init_115 : decode cX11_init 115 = .ok (.newarray .int, 2) := kD188_10 (kBe kE_cX11_init rfl rfl) (kBe kE_cX11_init rfl rfl)
theorem dX11_init_117 : decode cX11_init 117 = .ok (.putfield 71, 3) := kD181 (kBe kE_cX11_init rfl rfl) (kBe kE_cX11_init rfl rfl) (kBe kE_cX11_init rfl rfl)
theorem dX11_init_120 : decode cX11_init 120 = .ok (.aload_n 0, 1) := kD42 (kBe kE_cX11_init rfl rfl)
theorem dX11_init_121 : decode cX11_init 121 = .ok (.bipush 25, 2) := kD16 (kBe kE_cX11_init rfl rfl) (kBe kE_cX11_init rfl rfl) kS8_25
theorem dX11_init_123 : decode cX11_init 123 = .ok (.newarray .int, 2) := kD188_10 (kBe kE_cX11_init rfl rfl) (kBe kE_cX11_init rfl rfl)
theorem dX11_init_125 : decode cX11_init 125 = .ok (.putfield 74, 3) := kD181 (kBe kE_cX11_init rfl rfl) (kBe kE_cX11_init rfl rfl) (kBe kE_cX11_init rfl rfl)
theorem dX11_init_128 : decode cX11_init 128 = .ok (.aload_n 0, 1) := kD42 (kBe kE_cX11_init rfl rfl)
theorem dX11_init_129 : decode cX11_init 129 = .ok (.iconst 4, 1) := kD7 (kBe kE_cX11_init rfl rfl)
theorem dX11_init_130 : decode cX11_init 130 = .ok (.anewarray 77, 3) := kD189 (kBe kE_cX11_init rfl rfl) (kBe kE_cX11_init rfl rfl) (kBe kE_cX11_init rfl rfl)
theorem dX11_init_133 : decode cX11_init 133 = .ok (.putfield 79, 3) := kD181 (kBe kE_cX11_init rfl rfl) (kBe kE_cX11_init rfl rfl) (kBe kE_cX11_init rfl rfl)
theorem dX11_init_136 : decode cX11_init 136 = .ok (.iconst 0, 1) := kD3 (kBe kE_cX11_init rfl rfl)
theorem dX11_init_137 : decode cX11_init 137 = .ok (.istore_n 1, 1) := kD60 (kBe kE_cX11_init rfl rfl)
theorem dX11_init_138 : decode cX11_init 138 = .ok (.iload_n 1, 1) := kD27 (kBe kE_cX11_init rfl rfl)
theorem dX11_init_139 : decode cX11_init 139 = .ok (.iconst 4, 1) := kD7 (kBe kE_cX11_init rfl rfl)
theorem dX11_init_140 : decode cX11_init 140 = .ok (.if_icmp .ge 22, 3) := kD162 (kBe kE_cX11_init rfl rfl) (kBe kE_cX11_init rfl rfl) (kBe kE_cX11_init rfl rfl) kS16_0_22
theorem dX11_init_143 : decode cX11_init 143 = .ok (.aload_n 0, 1) := kD42 (kBe kE_cX11_init rfl rfl)
theorem dX11_init_144 : decode cX11_init 144 = .ok (.getfield 79, 3) := kD180 (kBe kE_cX11_init rfl rfl) (kBe kE_cX11_init rfl rfl) (kBe kE_cX11_init rfl rfl)
theorem dX11_init_147 : decode cX11_init 147 = .ok (.iload_n 1, 1) := kD27 (kBe kE_cX11_init rfl rfl)
theorem dX11_init_148 : decode cX11_init 148 = .ok (.new 77, 3) := kD187 (kBe kE_cX11_init rfl rfl) (kBe kE_cX11_init rfl rfl) (kBe kE_cX11_init rfl rfl)
theorem dX11_init_151 : decode cX11_init 151 = .ok (.dup, 1) := kD89 (kBe kE_cX11_init rfl rfl)
theorem dX11_init_152 : decode cX11_init 152 = .ok (.invokespecial 83, 3) := kD183 (kBe kE_cX11_init rfl rfl) (kBe kE_cX11_init rfl rfl) (kBe kE_cX11_init rfl rfl)
theorem dX11_init_155 : decode cX11_init 155 = .ok (.aastore, 1) := kD83 (kBe kE_cX11_init rfl rfl)
theorem dX11_init_156 : decode cX11_init 156 = .ok (.iinc 1 1, 3) := kD132 (kBe kE_cX11_init rfl rfl) (kBe kE_cX11_init rfl rfl) (kBe kE_cX11_init rfl rfl) kS8_1
theorem dX11_init_159 : decode cX11_init 159 = .ok (.goto (-21), 3) := kD167 (kBe kE_cX11_init rfl rfl) (kBe kE_cX11_init rfl rfl) (kBe kE_cX11_init rfl rfl) kS16_255_235
theorem dX11_init_162 : decode cX11_init 162 = .ok (.return_, 1) := kD177 (kBe kE_cX11_init rfl rfl)
theorem kE_cX11_type : kDc cX11_type 6177496351875352967841510231765323373024448745149887212195642311300243327970540846189188111398119159503658 44 := by unfold kDc; decide +kernel
theorem dX11_type_0 : decode cX11_type 0 = .ok (.aload_n 0, 1) := kD42 (kBe kE_cX11_type rfl rfl)
theorem dX11_type_1 : decode cX11_type 1 = .ok (.iload_n 1, 1) := kD27 (kBe kE_cX11_type rfl rfl)
theorem dX11_type_2 : decode cX11_type 2 = .ok (.invokevirtual 84, 3) := kD182 (kBe kE_cX11_type rfl rfl) (kBe kE_cX11_type rfl rfl) (kBe kE_cX11_type rfl rfl)
theorem dX11_type_5 : decode cX11_type 5 = .ok (.astore_n 3, 1) := kD78 (kBe kE_cX11_type rfl rfl)
theorem dX11_type_6 : decode cX11_type 6 = .ok (.aload_n 3, 1) := kD45 (kBe kE_cX11_type rfl rfl)
theorem dX11_type_7 : decode cX11_type 7 = .ok (.ifnull 14, 3) := kD198 (kBe kE_cX11_type rfl rfl) (kBe kE_cX11_type rfl rfl) (kBe kE_cX11_type rfl rfl) kS16_0_14
theorem dX11_type_10 : decode cX11_type 10 = .ok (.iload_n 2, 1) := kD28 (kBe kE_cX11_type rfl rfl)
theorem dX11_type_11 : decode cX11_type 11 = .ok (.ifCond .lt 10, 3) := kD155 (kBe kE_cX11_type rfl rfl) (kBe kE_cX11_type rfl rfl) (kBe kE_cX11_type rfl rfl) kS16_0_10
theorem dX11_type_14 : decode cX11_type 14 = .ok (.iload_n 2, 1) := kD28 (kBe kE_cX11_type rfl rfl)
theorem dX11_type_15 : decode cX11_type 15 = .ok (.sipush 255, 3) := kD17 (kBe kE_cX11_type rfl rfl) (kBe kE_cX11_type rfl rfl) (kBe kE_cX11_type rfl rfl) kS16_0_255
theorem dX11_type_18 : decode cX11_type 18 = .ok (.if_icmp .le 6, 3) := kD164 (kBe kE_cX11_type rfl rfl) (kBe kE_cX11_type rfl rfl) (kBe kE_cX11_type rfl rfl) kS16_0_6
theorem dX11_type_21 : decode cX11_type 21 = .ok (.bipush (-2), 2) := kD16 (kBe kE_cX11_type rfl rfl) (kBe kE_cX11_type rfl rfl) kS8_254
theorem dX11_type_23 : decode cX11_type 23 = .ok (.ireturn, 1) := kD172 (kBe kE_cX11_type rfl rfl)
theorem dX11_type_24 : decode cX11_type 24 = .ok (.aload_n 3, 1) := kD45 (kBe kE_cX11_type rfl rfl)
theorem dX11_type_25 : decode cX11_type 25 = .ok (.invokevirtual 88, 3) := kD182 (kBe kE_cX11_type rfl rfl) (kBe kE_cX11_type rfl rfl) (kBe kE_cX11_type rfl rfl)
theorem dX11_type_28 : decode cX11_type 28 = .ok (.ifCond .eq 6, 3) := kD153 (kBe kE_cX11_type rfl rfl) (kBe kE_cX11_type rfl rfl) (kBe kE_cX11_type rfl rfl) kS16_0_6
theorem dX11_type_31 : decode cX11_type 31 = .ok (.bipush (-4), 2) := kD16 (kBe kE_cX11_type rfl rfl) (kBe kE_cX11_type rfl rfl) kS8_252
theorem dX11_type_33 : decode cX11_type 33 = .ok (.ireturn, 1) := kD172 (kBe kE_cX11_type rfl rfl)
theorem dX11_type_34 : decode cX11_type 34 = .ok (.aload_n 3, 1) := kD45 (kBe kE_cX11_type rfl rfl)
theorem dX11_type_35 : decode cX11_type 35 = .ok (.iload_n 2, 1) := kD28 (kBe kE_cX11_type rfl rfl)
theorem dX11_type_36 : decode cX11_type 36 = .ok (.invokevirtual 94, 3) := kD182 (kBe kE_cX11_type rfl rfl) (kBe kE_cX11_type rfl rfl) (kBe kE_cX11_type rfl rfl)
theorem dX11_type_39 : decode cX11_type 39 = .ok (.aload_n 3, 1) := kD45 (kBe kE_cX11_type rfl rfl)
theorem dX11_type_40 : decode cX11_type 40 = .ok (.getfield 98, 3) := kD180 (kBe kE_cX11_type rfl rfl) (kBe kE_cX11_type rfl rfl) (kBe kE_cX11_type rfl rfl)
theorem dX11_type_43 : decode cX11_type 43 = .ok (.ireturn, 1) := kD172 (kBe kE_cX11_type rfl rfl)
theorem kE_cX11_wipe : kDc cX11_wipe 1080382346342555295485141961500629709665299568113656308046634 25 := by unfold kDc; decide +kernel
theorem dX11_wipe_0 : decode cX11_wipe 0 = .ok (.aload_n 0, 1) := kD42 (kBe kE_cX11_wipe rfl rfl)
theorem dX11_wipe_1 : decode cX11_wipe 1 = .ok (.iload_n 1, 1) := kD27 (kBe kE_cX11_wipe rfl rfl)
theorem dX11_wipe_2 : decode cX11_wipe 2 = .ok (.invokevirtual 84, 3) := kD182 (kBe kE_cX11_wipe rfl rfl) (kBe kE_cX11_wipe rfl rfl) (kBe kE_cX11_wipe rfl rfl)
theorem dX11_wipe_5 : decode cX11_wipe 5 = .ok (.astore_n 2, 1) := kD77 (kBe kE_cX11_wipe rfl rfl)
theorem dX11_wipe_6 : decode cX11_wipe 6 = .ok (.aload_n 2, 1) := kD44 (kBe kE_cX11_wipe rfl rfl)
theorem dX11_wipe_7 : decode cX11_wipe 7 = .ok (.ifnonnull 6, 3) := kD199 (kBe kE_cX11_wipe rfl rfl) (kBe kE_cX11_wipe rfl rfl) (kBe kE_cX11_wipe rfl rfl) kS16_0_6
theorem dX11_wipe_10 : decode cX11_wipe 10 = .ok (.bipush (-2), 2) := kD16 (kBe kE_cX11_wipe rfl rfl) (kBe kE_cX11_wipe rfl rfl) kS8_254
theorem dX11_wipe_12 : decode cX11_wipe 12 = .ok (.ireturn, 1) := kD172 (kBe kE_cX11_wipe rfl rfl)
theorem dX11_wipe_13 : decode cX11_wipe 13 = .ok (.aload_n 2, 1) := kD44 (kBe kE_cX11_wipe rfl rfl)
theorem dX11_wipe_14 : decode cX11_wipe 14 = .ok (.getfield 98, 3) := kD180 (kBe kE_cX11_wipe rfl rfl) (kBe kE_cX11_wipe rfl rfl) (kBe kE_cX11_wipe rfl rfl)
theorem dX11_wipe_17 : decode cX11_wipe 17 = .ok (.istore_n 3, 1) := kD62 (kBe kE_cX11_wipe rfl rfl)
theorem dX11_wipe_18 : decode cX11_wipe 18 = .ok (.aload_n 2, 1) := kD44 (kBe kE_cX11_wipe rfl rfl)
theorem dX11_wipe_19 : decode cX11_wipe 19 = .ok (.iconst 0, 1) := kD3 (kBe kE_cX11_wipe rfl rfl)
theorem dX11_wipe_20 : decode cX11_wipe 20 = .ok (.invokevirtual 102, 3) := kD182 (kBe kE_cX11_wipe rfl rfl) (kBe kE_cX11_wipe rfl rfl) (kBe kE_cX11_wipe rfl rfl)
theorem dX11_wipe_23 : decode cX11_wipe 23 = .ok (.iload_n 3, 1) := kD29 (kBe kE_cX11_wipe rfl rfl)
theorem dX11_wipe_24 : decode cX11_wipe 24 = .ok (.ireturn, 1) := kD172 (kBe kE_cX11_wipe rfl rfl)
theorem kE_cX11_undo : kDc cX11_undo 21946875790019042573060566063175947344484548767540925572186670381670626777984479666476817194 38 := by unfold kDc; decide +kernel
theorem dX11_undo_0 : decode cX11_undo 0 = .ok (.aload_n 0, 1) := kD42 (kBe kE_cX11_undo rfl rfl)
theorem dX11_undo_1 : decode cX11_undo 1 = .ok (.iload_n 1, 1) := kD27 (kBe kE_cX11_undo rfl rfl)
theorem dX11_undo_2 : decode cX11_undo 2 = .ok (.invokevirtual 84, 3) := kD182 (kBe kE_cX11_undo rfl rfl) (kBe kE_cX11_undo rfl rfl) (kBe kE_cX11_undo rfl rfl)
theorem dX11_undo_5 : decode cX11_undo 5 = .ok (.astore_n 2, 1) := kD77 (kBe kE_cX11_undo rfl rfl)
theorem dX11_undo_6 : decode cX11_undo 6 = .ok (.aload_n 2, 1) := kD44 (kBe kE_cX11_undo rfl rfl)
theorem dX11_undo_7 : decode cX11_undo 7 = .ok (.ifnonnull 6, 3) := kD199 (kBe kE_cX11_undo rfl rfl) (kBe kE_cX11_undo rfl rfl) (kBe kE_cX11_undo rfl rfl) kS16_0_6
theorem dX11_undo_10 : decode cX11_undo 10 = .ok (.bipush (-2), 2) := kD16 (kBe kE_cX11_undo rfl rfl) (kBe kE_cX11_undo rfl rfl) kS8_254
theorem dX11_undo_12 : decode cX11_undo 12 = .ok (.ireturn, 1) := kD172 (kBe kE_cX11_undo rfl rfl)
theorem dX11_undo_13 : decode cX11_undo 13 = .ok (.aload_n 2, 1) := kD44 (kBe kE_cX11_undo rfl rfl)
theorem dX11_undo_14 : decode cX11_undo 14 = .ok (.getfield 98, 3) := kD180 (kBe kE_cX11_undo rfl rfl) (kBe kE_cX11_undo rfl rfl) (kBe kE_cX11_undo rfl rfl)
theorem dX11_undo_17 : decode cX11_undo 17 = .ok (.ifCond .ne 6, 3) := kD154 (kBe kE_cX11_undo rfl rfl) (kBe kE_cX11_undo rfl rfl) (kBe kE_cX11_undo rfl rfl) kS16_0_6
theorem dX11_undo_20 : decode cX11_undo 20 = .ok (.bipush (-3), 2) := kD16 (kBe kE_cX11_undo rfl rfl) (kBe kE_cX11_undo rfl rfl) kS8_253
theorem dX11_undo_22 : decode cX11_undo 22 = .ok (.ireturn, 1) := kD172 (kBe kE_cX11_undo rfl rfl)
theorem dX11_undo_23 : decode cX11_undo 23 = .ok (.aload_n 2, 1) := kD44 (kBe kE_cX11_undo rfl rfl)
theorem dX11_undo_24 : decode cX11_undo 24 = .ok (.aload_n 2, 1) := kD44 (kBe kE_cX11_undo rfl rfl)
theorem dX11_undo_25 : decode cX11_undo 25 = .ok (.getfield 98, 3) := kD180 (kBe kE_cX11_undo rfl rfl) (kBe kE_cX11_undo rfl rfl) (kBe kE_cX11_undo rfl rfl)
theorem dX11_undo_28 : decode cX11_undo 28 = .ok (.iconst 1, 1) := kD4 (kBe kE_cX11_undo rfl rfl)
theorem dX11_undo_29 : decode cX11_undo 29 = .ok (.isub, 1) := kD100 (kBe kE_cX11_undo rfl rfl)
theorem dX11_undo_30 : decode cX11_undo 30 = .ok (.invokevirtual 102, 3) := kD182 (kBe kE_cX11_undo rfl rfl) (kBe kE_cX11_undo rfl rfl) (kBe kE_cX11_undo rfl rfl)
theorem dX11_undo_33 : decode cX11_undo 33 = .ok (.aload_n 2, 1) := kD44 (kBe kE_cX11_undo rfl rfl)
theorem dX11_undo_34 : decode cX11_undo 34 = .ok (.getfield 98, 3) := kD180 (kBe kE_cX11_undo rfl rfl) (kBe kE_cX11_undo rfl rfl) (kBe kE_cX11_undo rfl rfl)
theorem dX11_undo_37 : decode cX11_undo 37 = .ok (.ireturn, 1) := kD172 (kBe kE_cX11_undo rfl rfl)
theorem kE_cX11_fault : kDc cX11_fault 984288052136894550569163175991640947371973942058 20 := by unfold kDc; decide +kernel
theorem dX11_fault_0 : decode cX11_fault 0 = .ok (.aload_n 0, 1) := kD42 (kBe kE_cX11_fault rfl rfl)
theorem dX11_fault_1 : decode cX11_fault 1 = .ok (.iload_n 1, 1) := kD27 (kBe kE_cX11_fault rfl rfl)
theorem dX11_fault_2 : decode cX11_fault 2 = .ok (.invokevirtual 84, 3) := kD182 (kBe kE_cX11_fault rfl rfl) (kBe kE_cX11_fault rfl rfl) (kBe kE_cX11_fault rfl rfl)
theorem dX11_fault_5 : decode cX11_fault 5 = .ok (.astore_n 2, 1) := kD77 (kBe kE_cX11_fault rfl rfl)
theorem dX11_fault_6 : decode cX11_fault 6 = .ok (.aload_n 2, 1) := kD44 (kBe kE_cX11_fault rfl rfl)
theorem dX11_fault_7 : decode cX11_fault 7 = .ok (.ifnonnull 8, 3) := kD199 (kBe kE_cX11_fault rfl rfl) (kBe kE_cX11_fault rfl rfl) (kBe kE_cX11_fault rfl rfl) kS16_0_8
theorem dX11_fault_10 : decode cX11_fault 10 = .ok (.bipush (-2), 2) := kD16 (kBe kE_cX11_fault rfl rfl) (kBe kE_cX11_fault rfl rfl) kS8_254
theorem dX11_fault_12 : decode cX11_fault 12 = .ok (.goto 7, 3) := kD167 (kBe kE_cX11_fault rfl rfl) (kBe kE_cX11_fault rfl rfl) (kBe kE_cX11_fault rfl rfl) kS16_0_7
theorem dX11_fault_15 : decode cX11_fault 15 = .ok (.aload_n 2, 1) := kD44 (kBe kE_cX11_fault rfl rfl)
theorem dX11_fault_16 : decode cX11_fault 16 = .ok (.getfield 105, 3) := kD180 (kBe kE_cX11_fault rfl rfl) (kBe kE_cX11_fault rfl rfl) (kBe kE_cX11_fault rfl rfl)
theorem dX11_fault_19 : decode cX11_fault 19 = .ok (.ireturn, 1) := kD172 (kBe kE_cX11_fault rfl rfl)
theorem kE_cX11_mile : kDc cX11_mile 85543512373856681821555673014830110869530092188478605629005239453391297173571272399952667 37 := by unfold kDc; decide +kernel
theorem dX11_mile_0 : decode cX11_mile 0 = .ok (.iload_n 1, 1) := kD27 (kBe kE_cX11_mile rfl rfl)
theorem dX11_mile_1 : decode cX11_mile 1 = .ok (.ifCond .lt 9, 3) := kD155 (kBe kE_cX11_mile rfl rfl) (kBe kE_cX11_mile rfl rfl) (kBe kE_cX11_mile rfl rfl) kS16_0_9
theorem dX11_mile_4 : decode cX11_mile 4 = .ok (.iload_n 1, 1) := kD27 (kBe kE_cX11_mile rfl rfl)
theorem dX11_mile_5 : decode cX11_mile 5 = .ok (.bipush 24, 2) := kD16 (kBe kE_cX11_mile rfl rfl) (kBe kE_cX11_mile rfl rfl) kS8_24
theorem dX11_mile_7 : decode cX11_mile 7 = .ok (.if_icmp .lt 6, 3) := kD161 (kBe kE_cX11_mile rfl rfl) (kBe kE_cX11_mile rfl rfl) (kBe kE_cX11_mile rfl rfl) kS16_0_6
theorem dX11_mile_10 : decode cX11_mile 10 = .ok (.bipush (-2), 2) := kD16 (kBe kE_cX11_mile rfl rfl) (kBe kE_cX11_mile rfl rfl) kS8_254
theorem dX11_mile_12 : decode cX11_mile 12 = .ok (.ireturn, 1) := kD172 (kBe kE_cX11_mile rfl rfl)
theorem dX11_mile_13 : decode cX11_mile 13 = .ok (.iload_n 1, 1) := kD27 (kBe kE_cX11_mile rfl rfl)
theorem dX11_mile_14 : decode cX11_mile 14 = .ok (.aload_n 0, 1) := kD42 (kBe kE_cX11_mile rfl rfl)
theorem dX11_mile_15 : decode cX11_mile 15 = .ok (.getfield 10, 3) := kD180 (kBe kE_cX11_mile rfl rfl) (kBe kE_cX11_mile rfl rfl) (kBe kE_cX11_mile rfl rfl)
theorem dX11_mile_18 : decode cX11_mile 18 = .ok (.getfield 108, 3) := kD180 (kBe kE_cX11_mile rfl rfl) (kBe kE_cX11_mile rfl rfl) (kBe kE_cX11_mile rfl rfl)
theorem dX11_mile_21 : decode cX11_mile 21 = .ok (.if_icmp .ge 14, 3) := kD162 (kBe kE_cX11_mile rfl rfl) (kBe kE_cX11_mile rfl rfl) (kBe kE_cX11_mile rfl rfl) kS16_0_14
theorem dX11_mile_24 : decode cX11_mile 24 = .ok (.aload_n 0, 1) := kD42 (kBe kE_cX11_mile rfl rfl)
theorem dX11_mile_25 : decode cX11_mile 25 = .ok (.getfield 10, 3) := kD180 (kBe kE_cX11_mile rfl rfl) (kBe kE_cX11_mile rfl rfl) (kBe kE_cX11_mile rfl rfl)
theorem dX11_mile_28 : decode cX11_mile 28 = .ok (.iload_n 1, 1) := kD27 (kBe kE_cX11_mile rfl rfl)
theorem dX11_mile_29 : decode cX11_mile 29 = .ok (.invokevirtual 111, 3) := kD182 (kBe kE_cX11_mile rfl rfl) (kBe kE_cX11_mile rfl rfl) (kBe kE_cX11_mile rfl rfl)
theorem dX11_mile_32 : decode cX11_mile 32 = .ok (.goto 4, 3) := kD167 (kBe kE_cX11_mile rfl rfl) (kBe kE_cX11_mile rfl rfl) (kBe kE_cX11_mile rfl rfl) kS16_0_4
theorem dX11_mile_35 : decode cX11_mile 35 = .ok (.iconst (-1), 1) := kD2 (kBe kE_cX11_mile rfl rfl)
theorem dX11_mile_36 : decode cX11_mile 36 = .ok (.ireturn, 1) := kD172 (kBe kE_cX11_mile rfl rfl)
theorem kE_cX11_passenger : kDc cX11_passenger 19970065834675359184786085262458969283478394933535503404393529320612985342833706 33 := by unfold kDc; decide +kernel
theorem dX11_passenger_0 : decode cX11_passenger 0 = .ok (.aload_n 0, 1) := kD42 (kBe kE_cX11_passenger rfl rfl)
theorem dX11_passenger_1 : decode cX11_passenger 1 = .ok (.getfield 19, 3) := kD180 (kBe kE_cX11_passenger rfl rfl) (kBe kE_cX11_passenger rfl rfl) (kBe kE_cX11_passenger rfl rfl)
theorem dX11_passenger_4 : decode cX11_passenger 4 = .ok (.iload_n 1, 1) := kD27 (kBe kE_cX11_passenger rfl rfl)
theorem dX11_passenger_5 : decode cX11_passenger 5 = .ok (.invokevirtual 115, 3) := kD182 (kBe kE_cX11_passenger rfl rfl) (kBe kE_cX11_passenger rfl rfl) (kBe kE_cX11_passenger rfl rfl)
theorem dX11_passenger_8 : decode cX11_passenger 8 = .ok (.ifCond .eq 12, 3) := kD153 (kBe kE_cX11_passenger rfl rfl) (kBe kE_cX11_passenger rfl rfl) (kBe kE_cX11_passenger rfl rfl) kS16_0_12
theorem dX11_passenger_11 : decode cX11_passenger 11 = .ok (.iload_n 2, 1) := kD28 (kBe kE_cX11_passenger rfl rfl)
theorem dX11_passenger_12 : decode cX11_passenger 12 = .ok (.ifCond .lt 8, 3) := kD155 (kBe kE_cX11_passenger rfl rfl) (kBe kE_cX11_passenger rfl rfl) (kBe kE_cX11_passenger rfl rfl) kS16_0_8
theorem dX11_passenger_15 : decode cX11_passenger 15 = .ok (.iload_n 2, 1) := kD28 (kBe kE_cX11_passenger rfl rfl)
theorem dX11_passenger_16 : decode cX11_passenger 16 = .ok (.iconst 3, 1) := kD6 (kBe kE_cX11_passenger rfl rfl)
theorem dX11_passenger_17 : decode cX11_passenger 17 = .ok (.if_icmp .le 6, 3) := kD164 (kBe kE_cX11_passenger rfl rfl) (kBe kE_cX11_passenger rfl rfl) (kBe kE_cX11_passenger rfl rfl) kS16_0_6
theorem dX11_passenger_20 : decode cX11_passenger 20 = .ok (.bipush (-2), 2) := kD16 (kBe kE_cX11_passenger rfl rfl) (kBe kE_cX11_passenger rfl rfl) kS8_254
theorem dX11_passenger_22 : decode cX11_passenger 22 = .ok (.ireturn, 1) := kD172 (kBe kE_cX11_passenger rfl rfl)
theorem dX11_passenger_23 : decode cX11_passenger 23 = .ok (.aload_n 0, 1) := kD42 (kBe kE_cX11_passenger rfl rfl)
theorem dX11_passenger_24 : decode cX11_passenger 24 = .ok (.getfield 19, 3) := kD180 (kBe kE_cX11_passenger rfl rfl) (kBe kE_cX11_passenger rfl rfl) (kBe kE_cX11_passenger rfl rfl)
theorem dX11_passenger_27 : decode cX11_passenger 27 = .ok (.iload_n 1, 1) := kD27 (kBe kE_cX11_passenger rfl rfl)
theorem dX11_passenger_28 : decode cX11_passenger 28 = .ok (.iload_n 2, 1) := kD28 (kBe kE_cX11_passenger rfl rfl)
theorem dX11_passenger_29 : decode cX11_passenger 29 = .ok (.invokevirtual 119, 3) := kD182 (kBe kE_cX11_passenger rfl rfl) (kBe kE_cX11_passenger rfl rfl) (kBe kE_cX11_passenger rfl rfl)
theorem dX11_passenger_32 : decode cX11_passenger 32 = .ok (.ireturn, 1) := kD172 (kBe kE_cX11_passenger rfl rfl)
theorem kE_cX11_goose : kDc cX11_goose 19972327398918278396360927195370493990374043023553046039520763662561289640653866 33 := by unfold kDc; decide +kernel
theorem dX11_goose_0 : decode cX11_goose 0 = .ok (.aload_n 0, 1) := kD42 (kBe kE_cX11_goose rfl rfl)
theorem dX11_goose_1 : decode cX11_goose 1 = .ok (.getfield 26, 3) := kD180 (kBe kE_cX11_goose rfl rfl) (kBe kE_cX11_goose rfl rfl) (kBe kE_cX11_goose rfl rfl)
theorem dX11_goose_4 : decode cX11_goose 4 = .ok (.iload_n 1, 1) := kD27 (kBe kE_cX11_goose rfl rfl)
theorem dX11_goose_5 : decode cX11_goose 5 = .ok (.invokevirtual 123, 3) := kD182 (kBe kE_cX11_goose rfl rfl) (kBe kE_cX11_goose rfl rfl) (kBe kE_cX11_goose rfl rfl)
theorem dX11_goose_8 : decode cX11_goose 8 = .ok (.ifCond .eq 12, 3) := kD153 (kBe kE_cX11_goose rfl rfl) (kBe kE_cX11_goose rfl rfl) (kBe kE_cX11_goose rfl rfl) kS16_0_12
theorem dX11_goose_11 : decode cX11_goose 11 = .ok (.iload_n 2, 1) := kD28 (kBe kE_cX11_goose rfl rfl)
theorem dX11_goose_12 : decode cX11_goose 12 = .ok (.ifCond .lt 8, 3) := kD155 (kBe kE_cX11_goose rfl rfl) (kBe kE_cX11_goose rfl rfl) (kBe kE_cX11_goose rfl rfl) kS16_0_8
theorem dX11_goose_15 : decode cX11_goose 15 = .ok (.iload_n 2, 1) := kD28 (kBe kE_cX11_goose rfl rfl)
theorem dX11_goose_16 : decode cX11_goose 16 = .ok (.iconst 1, 1) := kD4 (kBe kE_cX11_goose rfl rfl)
theorem dX11_goose_17 : decode cX11_goose 17 = .ok (.if_icmp .le 6, 3) := kD164 (kBe kE_cX11_goose rfl rfl) (kBe kE_cX11_goose rfl rfl) (kBe kE_cX11_goose rfl rfl) kS16_0_6
theorem dX11_goose_20 : decode cX11_goose 20 = .ok (.bipush (-2), 2) := kD16 (kBe kE_cX11_goose rfl rfl) (kBe kE_cX11_goose rfl rfl) kS8_254
theorem dX11_goose_22 : decode cX11_goose 22 = .ok (.ireturn, 1) := kD172 (kBe kE_cX11_goose rfl rfl)
theorem dX11_goose_23 : decode cX11_goose 23 = .ok (.aload_n 0, 1) := kD42 (kBe kE_cX11_goose rfl rfl)
theorem dX11_goose_24 : decode cX11_goose 24 = .ok (.getfield 26, 3) := kD180 (kBe kE_cX11_goose rfl rfl) (kBe kE_cX11_goose rfl rfl) (kBe kE_cX11_goose rfl rfl)
theorem dX11_goose_27 : decode cX11_goose 27 = .ok (.iload_n 1, 1) := kD27 (kBe kE_cX11_goose rfl rfl)
theorem dX11_goose_28 : decode cX11_goose 28 = .ok (.iload_n 2, 1) := kD28 (kBe kE_cX11_goose rfl rfl)
theorem dX11_goose_29 : decode cX11_goose 29 = .ok (.invokevirtual 124, 3) := kD182 (kBe kE_cX11_goose rfl rfl) (kBe kE_cX11_goose rfl rfl) (kBe kE_cX11_goose rfl rfl)
theorem dX11_goose_32 : decode cX11_goose 32 = .ok (.ireturn, 1) := kD172 (kBe kE_cX11_goose rfl rfl)
theorem kE_cX11_flight : kDc cX11_flight 13665930438227142461402388673578 13 := by unfold kDc; decide +kernel
theorem dX11_flight_0 : decode cX11_flight 0 = .ok (.aload_n 0, 1) := kD42 (kBe kE_cX11_flight rfl rfl)
theorem dX11_flight_1 : decode cX11_flight 1 = .ok (.getfield 33, 3) := kD180 (kBe kE_cX11_flight rfl rfl) (kBe kE_cX11_flight rfl rfl) (kBe kE_cX11_flight rfl rfl)
theorem dX11_flight_4 : decode cX11_flight 4 = .ok (.iload_n 1, 1) := kD27 (kBe kE_cX11_flight rfl rfl)
theorem dX11_flight_5 : decode cX11_flight 5 = .ok (.iload_n 2, 1) := kD28 (kBe kE_cX11_flight rfl rfl)
theorem dX11_flight_6 : decode cX11_flight 6 = .ok (.iload_n 3, 1) := kD29 (kBe kE_cX11_flight rfl rfl)
theorem dX11_flight_7 : decode cX11_flight 7 = .ok (.iload 4, 2) := kD21 (kBe kE_cX11_flight rfl rfl) (kBe kE_cX11_flight rfl rfl)
theorem dX11_flight_9 : decode cX11_flight 9 = .ok (.invokevirtual 125, 3) := kD182 (kBe kE_cX11_flight rfl rfl) (kBe kE_cX11_flight rfl rfl) (kBe kE_cX11_flight rfl rfl)
theorem dX11_flight_12 : decode cX11_flight 12 = .ok (.ireturn, 1) := kD172 (kBe kE_cX11_flight rfl rfl)
theorem kE_cX11_back : kDc cX11_back 5113378978980131453154153337480842043056450567173798269846266662219765816934577194 34 := by unfold kDc; decide +kernel
theorem dX11_back_0 : decode cX11_back 0 = .ok (.aload_n 0, 1) := kD42 (kBe kE_cX11_back rfl rfl)
theorem dX11_back_1 : decode cX11_back 1 = .ok (.getfield 33, 3) := kD180 (kBe kE_cX11_back rfl rfl) (kBe kE_cX11_back rfl rfl) (kBe kE_cX11_back rfl rfl)
theorem dX11_back_4 : decode cX11_back 4 = .ok (.getfield 128, 3) := kD180 (kBe kE_cX11_back rfl rfl) (kBe kE_cX11_back rfl rfl) (kBe kE_cX11_back rfl rfl)
theorem dX11_back_7 : decode cX11_back 7 = .ok (.ifCond .ne 6, 3) := kD154 (kBe kE_cX11_back rfl rfl) (kBe kE_cX11_back rfl rfl) (kBe kE_cX11_back rfl rfl) kS16_0_6
theorem dX11_back_10 : decode cX11_back 10 = .ok (.bipush (-3), 2) := kD16 (kBe kE_cX11_back rfl rfl) (kBe kE_cX11_back rfl rfl) kS8_253
theorem dX11_back_12 : decode cX11_back 12 = .ok (.ireturn, 1) := kD172 (kBe kE_cX11_back rfl rfl)
theorem dX11_back_13 : decode cX11_back 13 = .ok (.aload_n 0, 1) := kD42 (kBe kE_cX11_back rfl rfl)
theorem dX11_back_14 : decode cX11_back 14 = .ok (.getfield 33, 3) := kD180 (kBe kE_cX11_back rfl rfl) (kBe kE_cX11_back rfl rfl) (kBe kE_cX11_back rfl rfl)
theorem dX11_back_17 : decode cX11_back 17 = .ok (.dup, 1) := kD89 (kBe kE_cX11_back rfl rfl)
theorem dX11_back_18 : decode cX11_back 18 = .ok (.getfield 128, 3) := kD180 (kBe kE_cX11_back rfl rfl) (kBe kE_cX11_back rfl rfl) (kBe kE_cX11_back rfl rfl)
theorem dX11_back_21 : decode cX11_back 21 = .ok (.iconst 1, 1) := kD4 (kBe kE_cX11_back rfl rfl)
theorem dX11_back_22 : decode cX11_back 22 = .ok (.isub, 1) := kD100 (kBe kE_cX11_back rfl rfl)
theorem dX11_back_23 : decode cX11_back 23 = .ok (.putfield 128, 3) := kD181 (kBe kE_cX11_back rfl rfl) (kBe kE_cX11_back rfl rfl) (kBe kE_cX11_back rfl rfl)
theorem dX11_back_26 : decode cX11_back 26 = .ok (.aload_n 0, 1) := kD42 (kBe kE_cX11_back rfl rfl)
theorem dX11_back_27 : decode cX11_back 27 = .ok (.getfield 33, 3) := kD180 (kBe kE_cX11_back rfl rfl) (kBe kE_cX11_back rfl rfl) (kBe kE_cX11_back rfl rfl)
theorem dX11_back_30 : decode cX11_back 30 = .ok (.getfield 128, 3) := kD180 (kBe kE_cX11_back rfl rfl) (kBe kE_cX11_back rfl rfl) (kBe kE_cX11_back rfl rfl)
theorem dX11_back_33 : decode cX11_back 33 = .ok (.ireturn, 1) := kD172 (kBe kE_cX11_back rfl rfl)
theorem kE_cX11_read : kDc cX11_read 17512109100606461833560369071893899758503303280611460695830296699803628626316418022807914741173236420383204550686350037243325392726210436498911937435005512056540808172482592611938260645486137696467021049329414043768604331209006177553095466 99 := by unfold kDc; decide +kernel
theorem dX11_read_0 : decode cX11_read 0 = .ok (.aload_n 0, 1) := kD42 (kBe kE_cX11_read rfl rfl)
theorem dX11_read_1 : decode cX11_read 1 = .ok (.iload_n 1, 1) := kD27 (kBe kE_cX11_read rfl rfl)
theorem dX11_read_2 : decode cX11_read 2 = .ok (.invokevirtual 129, 3) := kD182 (kBe kE_cX11_read rfl rfl) (kBe kE_cX11_read rfl rfl) (kBe kE_cX11_read rfl rfl)
theorem dX11_read_5 : decode cX11_read 5 = .ok (.astore_n 2, 1) := kD77 (kBe kE_cX11_read rfl rfl)
theorem dX11_read_6 : decode cX11_read 6 = .ok (.aload_n 2, 1) := kD44 (kBe kE_cX11_read rfl rfl)
theorem dX11_read_7 : decode cX11_read 7 = .ok (.ifnonnull 6, 3) := kD199 (kBe kE_cX11_read rfl rfl) (kBe kE_cX11_read rfl rfl) (kBe kE_cX11_read rfl rfl) kS16_0_6
theorem dX11_read_10 : decode cX11_read 10 = .ok (.bipush (-2), 2) := kD16 (kBe kE_cX11_read rfl rfl) (kBe kE_cX11_read rfl rfl) kS8_254
theorem dX11_read_12 : decode cX11_read 12 = .ok (.ireturn, 1) := kD172 (kBe kE_cX11_read rfl rfl)
theorem dX11_read_13 : decode cX11_read 13 = .ok (.aload_n 2, 1) := kD44 (kBe kE_cX11_read rfl rfl)
theorem dX11_read_14 : decode cX11_read 14 = .ok (.getfield 133, 3) := kD180 (kBe kE_cX11_read rfl rfl) (kBe kE_cX11_read rfl rfl) (kBe kE_cX11_read rfl rfl)
theorem dX11_read_17 : decode cX11_read 17 = .ok (.ifCond .eq 9, 3) := kD153 (kBe kE_cX11_read rfl rfl) (kBe kE_cX11_read rfl rfl) (kBe kE_cX11_read rfl rfl) kS16_0_9
theorem dX11_read_20 : decode cX11_read 20 = .ok (.aload_n 0, 1) := kD42 (kBe kE_cX11_read rfl rfl)
theorem dX11_read_21 : decode cX11_read 21 = .ok (.iconst 1, 1) := kD4 (kBe kE_cX11_read rfl rfl)
theorem dX11_read_22 : decode cX11_read 22 = .ok (.invokevirtual 137, 3) := kD182 (kBe kE_cX11_read rfl rfl) (kBe kE_cX11_read rfl rfl) (kBe kE_cX11_read rfl rfl)
theorem dX11_read_25 : decode cX11_read 25 = .ok (.ireturn, 1) := kD172 (kBe kE_cX11_read rfl rfl)
theorem dX11_read_26 : decode cX11_read 26 = .ok (.iconst 0, 1) := kD3 (kBe kE_cX11_read rfl rfl)
theorem dX11_read_27 : decode cX11_read 27 = .ok (.istore_n 3, 1) := kD62 (kBe kE_cX11_read rfl rfl)
theorem dX11_read_28 : decode cX11_read 28 = .ok (.iconst 0, 1) := kD3 (kBe kE_cX11_read rfl rfl)
theorem dX11_read_29 : decode cX11_read 29 = .ok (.istore 4, 2) := kD54 (kBe kE_cX11_read rfl rfl) (kBe kE_cX11_read rfl rfl)
theorem dX11_read_31 : decode cX11_read 31 = .ok (.iload 4, 2) := kD21 (kBe kE_cX11_read rfl rfl) (kBe kE_cX11_read rfl rfl)
theorem dX11_read_33 : decode cX11_read 33 = .ok (.iconst 3, 1) := kD6 (kBe kE_cX11_read rfl rfl)
theorem dX11_read_34 : decode cX11_read 34 = .ok (.iadd, 1) := kD96 (kBe kE_cX11_read rfl rfl)
theorem dX11_read_35 : decode cX11_read 35 = .ok (.aload_n 2, 1) := kD44 (kBe kE_cX11_read rfl rfl)
theorem dX11_read_36 : decode cX11_read 36 = .ok (.getfield 140, 3) := kD180 (kBe kE_cX11_read rfl rfl) (kBe kE_cX11_read rfl rfl) (kBe kE_cX11_read rfl rfl)
theorem dX11_read_39 : decode cX11_read 39 = .ok (.if_icmp .ge 58, 3) := kD162 (kBe kE_cX11_read rfl rfl) (kBe kE_cX11_read rfl rfl) (kBe kE_cX11_read rfl rfl) kS16_0_58
theorem dX11_read_42 : decode cX11_read 42 = .ok (.aload_n 0, 1) := kD42 (kBe kE_cX11_read rfl rfl)
theorem dX11_read_43 : decode cX11_read 43 = .ok (.getfield 33, 3) := kD180 (kBe kE_cX11_read rfl rfl) (kBe kE_cX11_read rfl rfl) (kBe kE_cX11_read rfl rfl)
theorem dX11_read_46 : decode cX11_read 46 = .ok (.aload_n 2, 1) := kD44 (kBe kE_cX11_read rfl rfl)
theorem dX11_read_47 : decode cX11_read 47 = .ok (.iload 4, 2) := kD21 (kBe kE_cX11_read rfl rfl) (kBe kE_cX11_read rfl rfl)
theorem dX11_read_49 : decode cX11_read 49 = .ok (.invokevirtual 143, 3) := kD182 (kBe kE_cX11_read rfl rfl) (kBe kE_cX11_read rfl rfl) (kBe kE_cX11_read rfl rfl)
theorem dX11_read_52 : decode cX11_read 52 = .ok (.aload_n 2, 1) := kD44 (kBe kE_cX11_read rfl rfl)
theorem dX11_read_53 : decode cX11_read 53 = .ok (.iload 4, 2) := kD21 (kBe kE_cX11_read rfl rfl) (kBe kE_cX11_read rfl rfl)
theorem dX11_read_55 : decode cX11_read 55 = .ok (.iconst 1, 1) := kD4 (kBe kE_cX11_read rfl rfl)
theorem dX11_read_56 : decode cX11_read 56 = .ok (.iadd, 1) := kD96 (kBe kE_cX11_read rfl rfl)
theorem dX11_read_57 : decode cX11_read 57 = .ok (.invokevirtual 143, 3) := kD182 (kBe kE_cX11_read rfl rfl) (kBe kE_cX11_read rfl rfl) (kBe kE_cX11_read rfl rfl)
theorem dX11_read_60 : decode cX11_read 60 = .ok (.aload_n 2, 1) := kD44 (kBe kE_cX11_read rfl rfl)
theorem dX11_read_61 : decode cX11_read 61 = .ok (.iload 4, 2) := kD21 (kBe kE_cX11_read rfl rfl) (kBe kE_cX11_read rfl rfl)
theorem dX11_read_63 : decode cX11_read 63 = .ok (.iconst 2, 1) := kD5 (kBe kE_cX11_read rfl rfl)
theorem dX11_read_64 : decode cX11_read 64 = .ok (.iadd, 1) := kD96 (kBe kE_cX11_read rfl rfl)
theorem dX11_read_65 : decode cX11_read 65 = .ok (.invokevirtual 143, 3) := kD182 (kBe kE_cX11_read rfl rfl) (kBe kE_cX11_read rfl rfl) (kBe kE_cX11_read rfl rfl)
theorem dX11_read_68 : decode cX11_read 68 = .ok (.aload_n 2, 1) := kD44 (kBe kE_cX11_read rfl rfl)
theorem dX11_read_69 : decode cX11_read 69 = .ok (.iload 4, 2) := kD21 (kBe kE_cX11_read rfl rfl) (kBe kE_cX11_read rfl rfl)
theorem dX11_read_71 : decode cX11_read 71 = .ok (.iconst 3, 1) := kD6 (kBe kE_cX11_read rfl rfl)
theorem dX11_read_72 : decode cX11_read 72 = .ok (.iadd, 1) := kD96 (kBe kE_cX11_read rfl rfl)
theorem dX11_read_73 : decode cX11_read 73 = .ok (.invokevirtual 143, 3) := kD182 (kBe kE_cX11_read rfl rfl) (kBe kE_cX11_read rfl rfl) (kBe kE_cX11_read rfl rfl)
theorem dX11_read_76 : decode cX11_read 76 = .ok (.invokevirtual 125, 3) := kD182 (kBe kE_cX11_read rfl rfl) (kBe kE_cX11_read rfl rfl) (kBe kE_cX11_read rfl rfl)
theorem dX11_read_79 : decode cX11_read 79 = .ok (.istore 5, 2) := kD54 (kBe kE_cX11_read rfl rfl) (kBe kE_cX11_read rfl rfl)
theorem dX11_read_81 : decode cX11_read 81 = .ok (.iload 5, 2) := kD21 (kBe kE_cX11_read rfl rfl) (kBe kE_cX11_read rfl rfl)
theorem dX11_read_83 : decode cX11_read 83 = .ok (.ifCond .ge 5, 3) := kD156 (kBe kE_cX11_read rfl rfl) (kBe kE_cX11_read rfl rfl) (kBe kE_cX11_read rfl rfl) kS16_0_5
theorem dX11_read_86 : decode cX11_read 86 = .ok (.iload_n 3, 1) := kD29 (kBe kE_cX11_read rfl rfl)
theorem dX11_read_87 : decode cX11_read 87 = .ok (.ireturn, 1) := kD172 (kBe kE_cX11_read rfl rfl)
theorem dX11_read_88 : decode cX11_read 88 = .ok (.iinc 3 1, 3) := kD132 (kBe kE_cX11_read rfl rfl) (kBe kE_cX11_read rfl rfl) (kBe kE_cX11_read rfl rfl) kS8_1
theorem dX11_read_91 : decode cX11_read 91 = .ok (.iinc 4 4, 3) := kD132 (kBe kE_cX11_read rfl rfl) (kBe kE_cX11_read rfl rfl) (kBe kE_cX11_read rfl rfl) kS8_4
theorem dX11_read_94 : decode cX11_read 94 = .ok (.goto (-63), 3) := kD167 (kBe kE_cX11_read rfl rfl) (kBe kE_cX11_read rfl rfl) (kBe kE_cX11_read rfl rfl) kS16_255_193
theorem dX11_read_97 : decode cX11_read 97 = .ok (.iload_n 3, 1) := kD29 (kBe kE_cX11_read rfl rfl)
theorem dX11_read_98 : decode cX11_read 98 = .ok (.ireturn, 1) := kD172 (kBe kE_cX11_read rfl rfl)
theorem kE_cX11_learn : kDc cX11_learn 1080362040775314291926668453211531576009842951216910093556507 25 := by unfold kDc; decide +kernel
theorem dX11_learn_0 : decode cX11_learn 0 = .ok (.iload_n 1, 1) := kD27 (kBe kE_cX11_learn rfl rfl)
theorem dX11_learn_1 : decode cX11_learn 1 = .ok (.ifCond .lt 9, 3) := kD155 (kBe kE_cX11_learn rfl rfl) (kBe kE_cX11_learn rfl rfl) (kBe kE_cX11_learn rfl rfl) kS16_0_9
theorem dX11_learn_4 : decode cX11_learn 4 = .ok (.iload_n 1, 1) := kD27 (kBe kE_cX11_learn rfl rfl)
theorem dX11_learn_5 : decode cX11_learn 5 = .ok (.bipush 64, 2) := kD16 (kBe kE_cX11_learn rfl rfl) (kBe kE_cX11_learn rfl rfl) kS8_64
theorem dX11_learn_7 : decode cX11_learn 7 = .ok (.if_icmp .lt 6, 3) := kD161 (kBe kE_cX11_learn rfl rfl) (kBe kE_cX11_learn rfl rfl) (kBe kE_cX11_learn rfl rfl) kS16_0_6
theorem dX11_learn_10 : decode cX11_learn 10 = .ok (.bipush (-2), 2) := kD16 (kBe kE_cX11_learn rfl rfl) (kBe kE_cX11_learn rfl rfl) kS8_254
theorem dX11_learn_12 : decode cX11_learn 12 = .ok (.ireturn, 1) := kD172 (kBe kE_cX11_learn rfl rfl)
theorem dX11_learn_13 : decode cX11_learn 13 = .ok (.aload_n 0, 1) := kD42 (kBe kE_cX11_learn rfl rfl)
theorem dX11_learn_14 : decode cX11_learn 14 = .ok (.getfield 146, 3) := kD180 (kBe kE_cX11_learn rfl rfl) (kBe kE_cX11_learn rfl rfl) (kBe kE_cX11_learn rfl rfl)
theorem dX11_learn_17 : decode cX11_learn 17 = .ok (.istore_n 2, 1) := kD61 (kBe kE_cX11_learn rfl rfl)
theorem dX11_learn_18 : decode cX11_learn 18 = .ok (.aload_n 0, 1) := kD42 (kBe kE_cX11_learn rfl rfl)
theorem dX11_learn_19 : decode cX11_learn 19 = .ok (.iload_n 1, 1) := kD27 (kBe kE_cX11_learn rfl rfl)
theorem dX11_learn_20 : decode cX11_learn 20 = .ok (.putfield 146, 3) := kD181 (kBe kE_cX11_learn rfl rfl) (kBe kE_cX11_learn rfl rfl) (kBe kE_cX11_learn rfl rfl)
theorem dX11_learn_23 : decode cX11_learn 23 = .ok (.iload_n 2, 1) := kD28 (kBe kE_cX11_learn rfl rfl)
theorem dX11_learn_24 : decode cX11_learn 24 = .ok (.ireturn, 1) := kD172 (kBe kE_cX11_learn rfl rfl)
theorem kE_cX11_comes : kDc cX11_comes 21157511258845458595000408470915651199431433198469612837350394062403892717997438791250304451994978035449202365645362731563342448417927200769308648790407405393878772880860341944358857762122781929704551212432658491150747257668340185501392885139045796660413051483178 109 := by unfold kDc; decide +kernel
theorem dX11_comes_0 : decode cX11_comes 0 = .ok (.aload_n 0, 1) := kD42 (kBe kE_cX11_comes rfl rfl)
theorem dX11_comes_1 : decode cX11_comes 1 = .ok (.getfield 33, 3) := kD180 (kBe kE_cX11_comes rfl rfl) (kBe kE_cX11_comes rfl rfl) (kBe kE_cX11_comes rfl rfl)
theorem dX11_comes_4 : decode cX11_comes 4 = .ok (.iload_n 1, 1) := kD27 (kBe kE_cX11_comes rfl rfl)
theorem dX11_comes_5 : decode cX11_comes 5 = .ok (.invokevirtual 149, 3) := kD182 (kBe kE_cX11_comes rfl rfl) (kBe kE_cX11_comes rfl rfl) (kBe kE_cX11_comes rfl rfl)
theorem dX11_comes_8 : decode cX11_comes 8 = .ok (.ifCond .eq 12, 3) := kD153 (kBe kE_cX11_comes rfl rfl) (kBe kE_cX11_comes rfl rfl) (kBe kE_cX11_comes rfl rfl) kS16_0_12
theorem dX11_comes_11 : decode cX11_comes 11 = .ok (.iload_n 2, 1) := kD28 (kBe kE_cX11_comes rfl rfl)
theorem dX11_comes_12 : decode cX11_comes 12 = .ok (.ifCond .lt 8, 3) := kD155 (kBe kE_cX11_comes rfl rfl) (kBe kE_cX11_comes rfl rfl) (kBe kE_cX11_comes rfl rfl) kS16_0_8
theorem dX11_comes_15 : decode cX11_comes 15 = .ok (.iload_n 2, 1) := kD28 (kBe kE_cX11_comes rfl rfl)
theorem dX11_comes_16 : decode cX11_comes 16 = .ok (.iconst 2, 1) := kD5 (kBe kE_cX11_comes rfl rfl)
theorem dX11_comes_17 : decode cX11_comes 17 = .ok (.if_icmp .le 6, 3) := kD164 (kBe kE_cX11_comes rfl rfl) (kBe kE_cX11_comes rfl rfl) (kBe kE_cX11_comes rfl rfl) kS16_0_6
theorem dX11_comes_20 : decode cX11_comes 20 = .ok (.bipush (-2), 2) := kD16 (kBe kE_cX11_comes rfl rfl) (kBe kE_cX11_comes rfl rfl) kS8_254
theorem dX11_comes_22 : decode cX11_comes 22 = .ok (.ireturn, 1) := kD172 (kBe kE_cX11_comes rfl rfl)
theorem dX11_comes_23 : decode cX11_comes 23 = .ok (.aload_n 0, 1) := kD42 (kBe kE_cX11_comes rfl rfl)
theorem dX11_comes_24 : decode cX11_comes 24 = .ok (.iload_n 1, 1) := kD27 (kBe kE_cX11_comes rfl rfl)
theorem dX11_comes_25 : decode cX11_comes 25 = .ok (.invokevirtual 150, 3) := kD182 (kBe kE_cX11_comes rfl rfl) (kBe kE_cX11_comes rfl rfl) (kBe kE_cX11_comes rfl rfl)
theorem dX11_comes_28 : decode cX11_comes 28 = .ok (.aload_n 0, 1) := kD42 (kBe kE_cX11_comes rfl rfl)
theorem dX11_comes_29 : decode cX11_comes 29 = .ok (.getfield 42, 3) := kD180 (kBe kE_cX11_comes rfl rfl) (kBe kE_cX11_comes rfl rfl) (kBe kE_cX11_comes rfl rfl)
theorem dX11_comes_32 : decode cX11_comes 32 = .ok (.aload_n 0, 1) := kD42 (kBe kE_cX11_comes rfl rfl)
theorem dX11_comes_33 : decode cX11_comes 33 = .ok (.getfield 33, 3) := kD180 (kBe kE_cX11_comes rfl rfl) (kBe kE_cX11_comes rfl rfl) (kBe kE_cX11_comes rfl rfl)
theorem dX11_comes_36 : decode cX11_comes 36 = .ok (.iload_n 1, 1) := kD27 (kBe kE_cX11_comes rfl rfl)
theorem dX11_comes_37 : decode cX11_comes 37 = .ok (.invokevirtual 153, 3) := kD182 (kBe kE_cX11_comes rfl rfl) (kBe kE_cX11_comes rfl rfl) (kBe kE_cX11_comes rfl rfl)
theorem dX11_comes_40 : decode cX11_comes 40 = .ok (.invokevirtual 156, 3) := kD182 (kBe kE_cX11_comes rfl rfl) (kBe kE_cX11_comes rfl rfl) (kBe kE_cX11_comes rfl rfl)
theorem dX11_comes_43 : decode cX11_comes 43 = .ok (.istore_n 3, 1) := kD62 (kBe kE_cX11_comes rfl rfl)
theorem dX11_comes_44 : decode cX11_comes 44 = .ok (.iload_n 2, 1) := kD28 (kBe kE_cX11_comes rfl rfl)
theorem dX11_comes_45 : decode cX11_comes 45 = .ok (.ifCond .ne 5, 3) := kD154 (kBe kE_cX11_comes rfl rfl) (kBe kE_cX11_comes rfl rfl) (kBe kE_cX11_comes rfl rfl) kS16_0_5
theorem dX11_comes_48 : decode cX11_comes 48 = .ok (.iload_n 3, 1) := kD29 (kBe kE_cX11_comes rfl rfl)
theorem dX11_comes_49 : decode cX11_comes 49 = .ok (.ireturn, 1) := kD172 (kBe kE_cX11_comes rfl rfl)
theorem dX11_comes_50 : decode cX11_comes 50 = .ok (.iload_n 2, 1) := kD28 (kBe kE_cX11_comes rfl rfl)
theorem dX11_comes_51 : decode cX11_comes 51 = .ok (.iconst 1, 1) := kD4 (kBe kE_cX11_comes rfl rfl)
theorem dX11_comes_52 : decode cX11_comes 52 = .ok (.if_icmp .ne 11, 3) := kD160 (kBe kE_cX11_comes rfl rfl) (kBe kE_cX11_comes rfl rfl) (kBe kE_cX11_comes rfl rfl) kS16_0_11
theorem dX11_comes_55 : decode cX11_comes 55 = .ok (.aload_n 0, 1) := kD42 (kBe kE_cX11_comes rfl rfl)
theorem dX11_comes_56 : decode cX11_comes 56 = .ok (.getfield 42, 3) := kD180 (kBe kE_cX11_comes rfl rfl) (kBe kE_cX11_comes rfl rfl) (kBe kE_cX11_comes rfl rfl)
theorem dX11_comes_59 : decode cX11_comes 59 = .ok (.getfield 159, 3) := kD180 (kBe kE_cX11_comes rfl rfl) (kBe kE_cX11_comes rfl rfl) (kBe kE_cX11_comes rfl rfl)
theorem dX11_comes_62 : decode cX11_comes 62 = .ok (.ireturn, 1) := kD172 (kBe kE_cX11_comes rfl rfl)
theorem dX11_comes_63 : decode cX11_comes 63 = .ok (.aload_n 0, 1) := kD42 (kBe kE_cX11_comes rfl rfl)
theorem dX11_comes_64 : decode cX11_comes 64 = .ok (.getfield 42, 3) := kD180 (kBe kE_cX11_comes rfl rfl) (kBe kE_cX11_comes rfl rfl) (kBe kE_cX11_comes rfl rfl)
theorem dX11_comes_67 : decode cX11_comes 67 = .ok (.getfield 159, 3) := kD180 (kBe kE_cX11_comes rfl rfl) (kBe kE_cX11_comes rfl rfl) (kBe kE_cX11_comes rfl rfl)
theorem dX11_comes_70 : decode cX11_comes 70 = .ok (.ifCond .eq 18, 3) := kD153 (kBe kE_cX11_comes rfl rfl) (kBe kE_cX11_comes rfl rfl) (kBe kE_cX11_comes rfl rfl) kS16_0_18
theorem dX11_comes_73 : decode cX11_comes 73 = .ok (.aload_n 0, 1) := kD42 (kBe kE_cX11_comes rfl rfl)
theorem dX11_comes_74 : decode cX11_comes 74 = .ok (.getfield 10, 3) := kD180 (kBe kE_cX11_comes rfl rfl) (kBe kE_cX11_comes rfl rfl) (kBe kE_cX11_comes rfl rfl)
theorem dX11_comes_77 : decode cX11_comes 77 = .ok (.iload_n 3, 1) := kD29 (kBe kE_cX11_comes rfl rfl)
theorem dX11_comes_78 : decode cX11_comes 78 = .ok (.invokevirtual 162, 3) := kD182 (kBe kE_cX11_comes rfl rfl) (kBe kE_cX11_comes rfl rfl) (kBe kE_cX11_comes rfl rfl)
theorem dX11_comes_81 : decode cX11_comes 81 = .ok (.ifCond .eq 7, 3) := kD153 (kBe kE_cX11_comes rfl rfl) (kBe kE_cX11_comes rfl rfl) (kBe kE_cX11_comes rfl rfl) kS16_0_7
theorem dX11_comes_84 : decode cX11_comes 84 = .ok (.iconst 1, 1) := kD4 (kBe kE_cX11_comes rfl rfl)
theorem dX11_comes_85 : decode cX11_comes 85 = .ok (.goto 4, 3) := kD167 (kBe kE_cX11_comes rfl rfl) (kBe kE_cX11_comes rfl rfl) (kBe kE_cX11_comes rfl rfl) kS16_0_4
theorem dX11_comes_88 : decode cX11_comes 88 = .ok (.iconst 0, 1) := kD3 (kBe kE_cX11_comes rfl rfl)
theorem dX11_comes_89 : decode cX11_comes 89 = .ok (.istore 4, 2) := kD54 (kBe kE_cX11_comes rfl rfl) (kBe kE_cX11_comes rfl rfl)
theorem dX11_comes_91 : decode cX11_comes 91 = .ok (.iload 4, 2) := kD21 (kBe kE_cX11_comes rfl rfl) (kBe kE_cX11_comes rfl rfl)
theorem dX11_comes_93 : decode cX11_comes 93 = .ok (.ifCond .eq 14, 3) := kD153 (kBe kE_cX11_comes rfl rfl) (kBe kE_cX11_comes rfl rfl) (kBe kE_cX11_comes rfl rfl) kS16_0_14
theorem dX11_comes_96 : decode cX11_comes 96 = .ok (.aload_n 0, 1) := kD42 (kBe kE_cX11_comes rfl rfl)
theorem dX11_comes_97 : decode cX11_comes 97 = .ok (.getfield 10, 3) := kD180 (kBe kE_cX11_comes rfl rfl) (kBe kE_cX11_comes rfl rfl) (kBe kE_cX11_comes rfl rfl)
theorem dX11_comes_100 : decode cX11_comes 100 = .ok (.iload_n 3, 1) := kD29 (kBe kE_cX11_comes rfl rfl)
theorem dX11_comes_101 : decode cX11_comes 101 = .ok (.invokevirtual 111, 3) := kD182 (kBe kE_cX11_comes rfl rfl) (kBe kE_cX11_comes rfl rfl) (kBe kE_cX11_comes rfl rfl)
theorem dX11_comes_104 : decode cX11_comes 104 = .ok (.goto 4, 3) := kD167 (kBe kE_cX11_comes rfl rfl) (kBe kE_cX11_comes rfl rfl) (kBe kE_cX11_comes rfl rfl) kS16_0_4
theorem dX11_comes_107 : decode cX11_comes 107 = .ok (.iconst (-1), 1) := kD2 (kBe kE_cX11_comes rfl rfl)
theorem dX11_comes_108 : decode cX11_comes 108 = .ok (.ireturn, 1) := kD172 (kBe kE_cX11_comes rfl rfl)
theorem kE_cX11_behind : kDc cX11_behind 137987538095890647559508334014359336219720536711261235232809935789316632553398002717631636061938032459969445796491768349784485516896663033801483531306 62 := by unfold kDc; decide +kernel
theorem dX11_behind_0 : decode cX11_behind 0 = .ok (.aload_n 0, 1) := kD42 (kBe kE_cX11_behind rfl rfl)
theorem dX11_behind_1 : decode cX11_behind 1 = .ok (.getfield 33, 3) := kD180 (kBe kE_cX11_behind rfl rfl) (kBe kE_cX11_behind rfl rfl) (kBe kE_cX11_behind rfl rfl)
theorem dX11_behind_4 : decode cX11_behind 4 = .ok (.iload_n 1, 1) := kD27 (kBe kE_cX11_behind rfl rfl)
theorem dX11_behind_5 : decode cX11_behind 5 = .ok (.invokevirtual 149, 3) := kD182 (kBe kE_cX11_behind rfl rfl) (kBe kE_cX11_behind rfl rfl) (kBe kE_cX11_behind rfl rfl)
theorem dX11_behind_8 : decode cX11_behind 8 = .ok (.ifCond .eq 23, 3) := kD153 (kBe kE_cX11_behind rfl rfl) (kBe kE_cX11_behind rfl rfl) (kBe kE_cX11_behind rfl rfl) kS16_0_23
theorem dX11_behind_11 : decode cX11_behind 11 = .ok (.aload_n 0, 1) := kD42 (kBe kE_cX11_behind rfl rfl)
theorem dX11_behind_12 : decode cX11_behind 12 = .ok (.getfield 10, 3) := kD180 (kBe kE_cX11_behind rfl rfl) (kBe kE_cX11_behind rfl rfl) (kBe kE_cX11_behind rfl rfl)
theorem dX11_behind_15 : decode cX11_behind 15 = .ok (.iload_n 2, 1) := kD28 (kBe kE_cX11_behind rfl rfl)
theorem dX11_behind_16 : decode cX11_behind 16 = .ok (.invokevirtual 165, 3) := kD182 (kBe kE_cX11_behind rfl rfl) (kBe kE_cX11_behind rfl rfl) (kBe kE_cX11_behind rfl rfl)
theorem dX11_behind_19 : decode cX11_behind 19 = .ok (.ifCond .eq 12, 3) := kD153 (kBe kE_cX11_behind rfl rfl) (kBe kE_cX11_behind rfl rfl) (kBe kE_cX11_behind rfl rfl) kS16_0_12
theorem dX11_behind_22 : decode cX11_behind 22 = .ok (.iload_n 3, 1) := kD29 (kBe kE_cX11_behind rfl rfl)
theorem dX11_behind_23 : decode cX11_behind 23 = .ok (.ifCond .lt 8, 3) := kD155 (kBe kE_cX11_behind rfl rfl) (kBe kE_cX11_behind rfl rfl) (kBe kE_cX11_behind rfl rfl) kS16_0_8
theorem dX11_behind_26 : decode cX11_behind 26 = .ok (.iload_n 3, 1) := kD29 (kBe kE_cX11_behind rfl rfl)
theorem dX11_behind_27 : decode cX11_behind 27 = .ok (.iconst 3, 1) := kD6 (kBe kE_cX11_behind rfl rfl)
theorem dX11_behind_28 : decode cX11_behind 28 = .ok (.if_icmp .le 6, 3) := kD164 (kBe kE_cX11_behind rfl rfl) (kBe kE_cX11_behind rfl rfl) (kBe kE_cX11_behind rfl rfl) kS16_0_6
theorem dX11_behind_31 : decode cX11_behind 31 = .ok (.bipush (-2), 2) := kD16 (kBe kE_cX11_behind rfl rfl) (kBe kE_cX11_behind rfl rfl) kS8_254
theorem dX11_behind_33 : decode cX11_behind 33 = .ok (.ireturn, 1) := kD172 (kBe kE_cX11_behind rfl rfl)
theorem dX11_behind_34 : decode cX11_behind 34 = .ok (.aload_n 0, 1) := kD42 (kBe kE_cX11_behind rfl rfl)
theorem dX11_behind_35 : decode cX11_behind 35 = .ok (.iload_n 1, 1) := kD27 (kBe kE_cX11_behind rfl rfl)
theorem dX11_behind_36 : decode cX11_behind 36 = .ok (.invokevirtual 150, 3) := kD182 (kBe kE_cX11_behind rfl rfl) (kBe kE_cX11_behind rfl rfl) (kBe kE_cX11_behind rfl rfl)
theorem dX11_behind_39 : decode cX11_behind 39 = .ok (.iload_n 3, 1) := kD29 (kBe kE_cX11_behind rfl rfl)
theorem dX11_behind_40 : decode cX11_behind 40 = .ok (.iconst 2, 1) := kD5 (kBe kE_cX11_behind rfl rfl)
theorem dX11_behind_41 : decode cX11_behind 41 = .ok (.if_icmp .ge 13, 3) := kD162 (kBe kE_cX11_behind rfl rfl) (kBe kE_cX11_behind rfl rfl) (kBe kE_cX11_behind rfl rfl) kS16_0_13
theorem dX11_behind_44 : decode cX11_behind 44 = .ok (.aload_n 0, 1) := kD42 (kBe kE_cX11_behind rfl rfl)
theorem dX11_behind_45 : decode cX11_behind 45 = .ok (.iload_n 1, 1) := kD27 (kBe kE_cX11_behind rfl rfl)
theorem dX11_behind_46 : decode cX11_behind 46 = .ok (.iload_n 2, 1) := kD28 (kBe kE_cX11_behind rfl rfl)
theorem dX11_behind_47 : decode cX11_behind 47 = .ok (.iload_n 3, 1) := kD29 (kBe kE_cX11_behind rfl rfl)
theorem dX11_behind_48 : decode cX11_behind 48 = .ok (.invokevirtual 166, 3) := kD182 (kBe kE_cX11_behind rfl rfl) (kBe kE_cX11_behind rfl rfl) (kBe kE_cX11_behind rfl rfl)
theorem dX11_behind_51 : decode cX11_behind 51 = .ok (.goto 10, 3) := kD167 (kBe kE_cX11_behind rfl rfl) (kBe kE_cX11_behind rfl rfl) (kBe kE_cX11_behind rfl rfl) kS16_0_10
theorem dX11_behind_54 : decode cX11_behind 54 = .ok (.aload_n 0, 1) := kD42 (kBe kE_cX11_behind rfl rfl)
theorem dX11_behind_55 : decode cX11_behind 55 = .ok (.iload_n 1, 1) := kD27 (kBe kE_cX11_behind rfl rfl)
theorem dX11_behind_56 : decode cX11_behind 56 = .ok (.iload_n 2, 1) := kD28 (kBe kE_cX11_behind rfl rfl)
theorem dX11_behind_57 : decode cX11_behind 57 = .ok (.iload_n 3, 1) := kD29 (kBe kE_cX11_behind rfl rfl)
theorem dX11_behind_58 : decode cX11_behind 58 = .ok (.invokevirtual 170, 3) := kD182 (kBe kE_cX11_behind rfl rfl) (kBe kE_cX11_behind rfl rfl) (kBe kE_cX11_behind rfl rfl)
theorem dX11_behind_61 : decode cX11_behind 61 = .ok (.ireturn, 1) := kD172 (kBe kE_cX11_behind rfl rfl)
theorem kE_cX11_farthest : kDc cX11_farthest 3067320582427109470351915864806287425009412098987006991538901353932881858572531095808735463409426926429400272786309037422836072386628756656644367658377634604757314105433342723035279742287887362 80 := by unfold kDc; decide +kernel
theorem dX11_farthest_0 : decode cX11_farthest 0 = .ok (.iconst (-1), 1) := kD2 (kBe kE_cX11_farthest rfl rfl)
theorem dX11_farthest_1 : decode cX11_farthest 1 = .ok (.istore_n 1, 1) := kD60 (kBe kE_cX11_farthest rfl rfl)
theorem dX11_farthest_2 : decode cX11_farthest 2 = .ok (.iconst (-1), 1) := kD2 (kBe kE_cX11_farthest rfl rfl)
theorem dX11_farthest_3 : decode cX11_farthest 3 = .ok (.istore_n 2, 1) := kD61 (kBe kE_cX11_farthest rfl rfl)
theorem dX11_farthest_4 : decode cX11_farthest 4 = .ok (.iconst 0, 1) := kD3 (kBe kE_cX11_farthest rfl rfl)
theorem dX11_farthest_5 : decode cX11_farthest 5 = .ok (.istore_n 3, 1) := kD62 (kBe kE_cX11_farthest rfl rfl)
theorem dX11_farthest_6 : decode cX11_farthest 6 = .ok (.iload_n 3, 1) := kD29 (kBe kE_cX11_farthest rfl rfl)
theorem dX11_farthest_7 : decode cX11_farthest 7 = .ok (.aload_n 0, 1) := kD42 (kBe kE_cX11_farthest rfl rfl)
theorem dX11_farthest_8 : decode cX11_farthest 8 = .ok (.getfield 33, 3) := kD180 (kBe kE_cX11_farthest rfl rfl) (kBe kE_cX11_farthest rfl rfl) (kBe kE_cX11_farthest rfl rfl)
theorem dX11_farthest_11 : decode cX11_farthest 11 = .ok (.getfield 128, 3) := kD180 (kBe kE_cX11_farthest rfl rfl) (kBe kE_cX11_farthest rfl rfl) (kBe kE_cX11_farthest rfl rfl)
theorem dX11_farthest_14 : decode cX11_farthest 14 = .ok (.if_icmp .ge 64, 3) := kD162 (kBe kE_cX11_farthest rfl rfl) (kBe kE_cX11_farthest rfl rfl) (kBe kE_cX11_farthest rfl rfl) kS16_0_64
theorem dX11_farthest_17 : decode cX11_farthest 17 = .ok (.aload_n 0, 1) := kD42 (kBe kE_cX11_farthest rfl rfl)
theorem dX11_farthest_18 : decode cX11_farthest 18 = .ok (.iload_n 3, 1) := kD29 (kBe kE_cX11_farthest rfl rfl)
theorem dX11_farthest_19 : decode cX11_farthest 19 = .ok (.invokevirtual 150, 3) := kD182 (kBe kE_cX11_farthest rfl rfl) (kBe kE_cX11_farthest rfl rfl) (kBe kE_cX11_farthest rfl rfl)
theorem dX11_farthest_22 : decode cX11_farthest 22 = .ok (.aload_n 0, 1) := kD42 (kBe kE_cX11_farthest rfl rfl)
theorem dX11_farthest_23 : decode cX11_farthest 23 = .ok (.getfield 42, 3) := kD180 (kBe kE_cX11_farthest rfl rfl) (kBe kE_cX11_farthest rfl rfl) (kBe kE_cX11_farthest rfl rfl)
theorem dX11_farthest_26 : decode cX11_farthest 26 = .ok (.aload_n 0, 1) := kD42 (kBe kE_cX11_farthest rfl rfl)
theorem dX11_farthest_27 : decode cX11_farthest 27 = .ok (.getfield 33, 3) := kD180 (kBe kE_cX11_farthest rfl rfl) (kBe kE_cX11_farthest rfl rfl) (kBe kE_cX11_farthest rfl rfl)
theorem dX11_farthest_30 : decode cX11_farthest 30 = .ok (.iload_n 3, 1) := kD29 (kBe kE_cX11_farthest rfl rfl)
theorem dX11_farthest_31 : decode cX11_farthest 31 = .ok (.invokevirtual 153, 3) := kD182 (kBe kE_cX11_farthest rfl rfl) (kBe kE_cX11_farthest rfl rfl) (kBe kE_cX11_farthest rfl rfl)
theorem dX11_farthest_34 : decode cX11_farthest 34 = .ok (.invokevirtual 156, 3) := kD182 (kBe kE_cX11_farthest rfl rfl) (kBe kE_cX11_farthest rfl rfl) (kBe kE_cX11_farthest rfl rfl)
theorem dX11_farthest_37 : decode cX11_farthest 37 = .ok (.istore 4, 2) := kD54 (kBe kE_cX11_farthest rfl rfl) (kBe kE_cX11_farthest rfl rfl)
theorem dX11_farthest_39 : decode cX11_farthest 39 = .ok (.iconst 2, 1) := kD5 (kBe kE_cX11_farthest rfl rfl)
theorem dX11_farthest_40 : decode cX11_farthest 40 = .ok (.iload 4, 2) := kD21 (kBe kE_cX11_farthest rfl rfl) (kBe kE_cX11_farthest rfl rfl)
theorem dX11_farthest_42 : decode cX11_farthest 42 = .ok (.imul, 1) := kD104 (kBe kE_cX11_farthest rfl rfl)
theorem dX11_farthest_43 : decode cX11_farthest 43 = .ok (.aload_n 0, 1) := kD42 (kBe kE_cX11_farthest rfl rfl)
theorem dX11_farthest_44 : decode cX11_farthest 44 = .ok (.getfield 42, 3) := kD180 (kBe kE_cX11_farthest rfl rfl) (kBe kE_cX11_farthest rfl rfl) (kBe kE_cX11_farthest rfl rfl)
theorem dX11_farthest_47 : decode cX11_farthest 47 = .ok (.getfield 159, 3) := kD180 (kBe kE_cX11_farthest rfl rfl) (kBe kE_cX11_farthest rfl rfl) (kBe kE_cX11_farthest rfl rfl)
theorem dX11_farthest_50 : decode cX11_farthest 50 = .ok (.ifCond .ne 7, 3) := kD154 (kBe kE_cX11_farthest rfl rfl) (kBe kE_cX11_farthest rfl rfl) (kBe kE_cX11_farthest rfl rfl) kS16_0_7
theorem dX11_farthest_53 : decode cX11_farthest 53 = .ok (.iconst 1, 1) := kD4 (kBe kE_cX11_farthest rfl rfl)
theorem dX11_farthest_54 : decode cX11_farthest 54 = .ok (.goto 4, 3) := kD167 (kBe kE_cX11_farthest rfl rfl) (kBe kE_cX11_farthest rfl rfl) (kBe kE_cX11_farthest rfl rfl) kS16_0_4
theorem dX11_farthest_57 : decode cX11_farthest 57 = .ok (.iconst 0, 1) := kD3 (kBe kE_cX11_farthest rfl rfl)
theorem dX11_farthest_58 : decode cX11_farthest 58 = .ok (.iadd, 1) := kD96 (kBe kE_cX11_farthest rfl rfl)
theorem dX11_farthest_59 : decode cX11_farthest 59 = .ok (.istore 5, 2) := kD54 (kBe kE_cX11_farthest rfl rfl) (kBe kE_cX11_farthest rfl rfl)
theorem dX11_farthest_61 : decode cX11_farthest 61 = .ok (.iload 5, 2) := kD21 (kBe kE_cX11_farthest rfl rfl) (kBe kE_cX11_farthest rfl rfl)
theorem dX11_farthest_63 : decode cX11_farthest 63 = .ok (.iload_n 2, 1) := kD28 (kBe kE_cX11_farthest rfl rfl)
theorem dX11_farthest_64 : decode cX11_farthest 64 = .ok (.if_icmp .le 8, 3) := kD164 (kBe kE_cX11_farthest rfl rfl) (kBe kE_cX11_farthest rfl rfl) (kBe kE_cX11_farthest rfl rfl) kS16_0_8
theorem dX11_farthest_67 : decode cX11_farthest 67 = .ok (.iload 5, 2) := kD21 (kBe kE_cX11_farthest rfl rfl) (kBe kE_cX11_farthest rfl rfl)
theorem dX11_farthest_69 : decode cX11_farthest 69 = .ok (.istore_n 2, 1) := kD61 (kBe kE_cX11_farthest rfl rfl)
theorem dX11_farthest_70 : decode cX11_farthest 70 = .ok (.iload_n 3, 1) := kD29 (kBe kE_cX11_farthest rfl rfl)
theorem dX11_farthest_71 : decode cX11_farthest 71 = .ok (.istore_n 1, 1) := kD60 (kBe kE_cX11_farthest rfl rfl)
theorem dX11_farthest_72 : decode cX11_farthest 72 = .ok (.iinc 3 1, 3) := kD132 (kBe kE_cX11_farthest rfl rfl) (kBe kE_cX11_farthest rfl rfl) (kBe kE_cX11_farthest rfl rfl) kS8_1
theorem dX11_farthest_75 : decode cX11_farthest 75 = .ok (.goto (-69), 3) := kD167 (kBe kE_cX11_farthest rfl rfl) (kBe kE_cX11_farthest rfl rfl) (kBe kE_cX11_farthest rfl rfl) kS16_255_187
theorem dX11_farthest_78 : decode cX11_farthest 78 = .ok (.iload_n 1, 1) := kD27 (kBe kE_cX11_farthest rfl rfl)
theorem dX11_farthest_79 : decode cX11_farthest 79 = .ok (.ireturn, 1) := kD172 (kBe kE_cX11_farthest rfl rfl)
theorem kE_cX11_climb : kDc cX11_climb 490307848848104218852753913246356635092991992157164071922196370666913274516952209913740766938427067893306464969032483544695848799613994 56 := by unfold kDc; decide +kernel
theorem dX11_climb_0 : decode cX11_climb 0 = .ok (.aload_n 0, 1) := kD42 (kBe kE_cX11_climb rfl rfl)
theorem dX11_climb_1 : decode cX11_climb 1 = .ok (.getfield 33, 3) := kD180 (kBe kE_cX11_climb rfl rfl) (kBe kE_cX11_climb rfl rfl) (kBe kE_cX11_climb rfl rfl)
theorem dX11_climb_4 : decode cX11_climb 4 = .ok (.iload_n 1, 1) := kD27 (kBe kE_cX11_climb rfl rfl)
theorem dX11_climb_5 : decode cX11_climb 5 = .ok (.invokevirtual 149, 3) := kD182 (kBe kE_cX11_climb rfl rfl) (kBe kE_cX11_climb rfl rfl) (kBe kE_cX11_climb rfl rfl)
theorem dX11_climb_8 : decode cX11_climb 8 = .ok (.ifCond .eq 13, 3) := kD153 (kBe kE_cX11_climb rfl rfl) (kBe kE_cX11_climb rfl rfl) (kBe kE_cX11_climb rfl rfl) kS16_0_13
theorem dX11_climb_11 : decode cX11_climb 11 = .ok (.iload_n 2, 1) := kD28 (kBe kE_cX11_climb rfl rfl)
theorem dX11_climb_12 : decode cX11_climb 12 = .ok (.iconst (-1), 1) := kD2 (kBe kE_cX11_climb rfl rfl)
theorem dX11_climb_13 : decode cX11_climb 13 = .ok (.if_icmp .lt 8, 3) := kD161 (kBe kE_cX11_climb rfl rfl) (kBe kE_cX11_climb rfl rfl) (kBe kE_cX11_climb rfl rfl) kS16_0_8
theorem dX11_climb_16 : decode cX11_climb 16 = .ok (.iload_n 2, 1) := kD28 (kBe kE_cX11_climb rfl rfl)
theorem dX11_climb_17 : decode cX11_climb 17 = .ok (.iconst 2, 1) := kD5 (kBe kE_cX11_climb rfl rfl)
theorem dX11_climb_18 : decode cX11_climb 18 = .ok (.if_icmp .le 6, 3) := kD164 (kBe kE_cX11_climb rfl rfl) (kBe kE_cX11_climb rfl rfl) (kBe kE_cX11_climb rfl rfl) kS16_0_6
theorem dX11_climb_21 : decode cX11_climb 21 = .ok (.bipush (-2), 2) := kD16 (kBe kE_cX11_climb rfl rfl) (kBe kE_cX11_climb rfl rfl) kS8_254
theorem dX11_climb_23 : decode cX11_climb 23 = .ok (.ireturn, 1) := kD172 (kBe kE_cX11_climb rfl rfl)
theorem dX11_climb_24 : decode cX11_climb 24 = .ok (.aload_n 0, 1) := kD42 (kBe kE_cX11_climb rfl rfl)
theorem dX11_climb_25 : decode cX11_climb 25 = .ok (.iload_n 1, 1) := kD27 (kBe kE_cX11_climb rfl rfl)
theorem dX11_climb_26 : decode cX11_climb 26 = .ok (.invokevirtual 150, 3) := kD182 (kBe kE_cX11_climb rfl rfl) (kBe kE_cX11_climb rfl rfl) (kBe kE_cX11_climb rfl rfl)
theorem dX11_climb_29 : decode cX11_climb 29 = .ok (.aload_n 0, 1) := kD42 (kBe kE_cX11_climb rfl rfl)
theorem dX11_climb_30 : decode cX11_climb 30 = .ok (.getfield 49, 3) := kD180 (kBe kE_cX11_climb rfl rfl) (kBe kE_cX11_climb rfl rfl) (kBe kE_cX11_climb rfl rfl)
theorem dX11_climb_33 : decode cX11_climb 33 = .ok (.aload_n 0, 1) := kD42 (kBe kE_cX11_climb rfl rfl)
theorem dX11_climb_34 : decode cX11_climb 34 = .ok (.getfield 42, 3) := kD180 (kBe kE_cX11_climb rfl rfl) (kBe kE_cX11_climb rfl rfl) (kBe kE_cX11_climb rfl rfl)
theorem dX11_climb_37 : decode cX11_climb 37 = .ok (.aload_n 0, 1) := kD42 (kBe kE_cX11_climb rfl rfl)
theorem dX11_climb_38 : decode cX11_climb 38 = .ok (.getfield 10, 3) := kD180 (kBe kE_cX11_climb rfl rfl) (kBe kE_cX11_climb rfl rfl) (kBe kE_cX11_climb rfl rfl)
theorem dX11_climb_41 : decode cX11_climb 41 = .ok (.getfield 108, 3) := kD180 (kBe kE_cX11_climb rfl rfl) (kBe kE_cX11_climb rfl rfl) (kBe kE_cX11_climb rfl rfl)
theorem dX11_climb_44 : decode cX11_climb 44 = .ok (.invokevirtual 173, 3) := kD182 (kBe kE_cX11_climb rfl rfl) (kBe kE_cX11_climb rfl rfl) (kBe kE_cX11_climb rfl rfl)
theorem dX11_climb_47 : decode cX11_climb 47 = .ok (.aload_n 0, 1) := kD42 (kBe kE_cX11_climb rfl rfl)
theorem dX11_climb_48 : decode cX11_climb 48 = .ok (.getfield 49, 3) := kD180 (kBe kE_cX11_climb rfl rfl) (kBe kE_cX11_climb rfl rfl) (kBe kE_cX11_climb rfl rfl)
theorem dX11_climb_51 : decode cX11_climb 51 = .ok (.iload_n 2, 1) := kD28 (kBe kE_cX11_climb rfl rfl)
theorem dX11_climb_52 : decode cX11_climb 52 = .ok (.invokevirtual 177, 3) := kD182 (kBe kE_cX11_climb rfl rfl) (kBe kE_cX11_climb rfl rfl) (kBe kE_cX11_climb rfl rfl)
theorem dX11_climb_55 : decode cX11_climb 55 = .ok (.ireturn, 1) := kD172 (kBe kE_cX11_climb rfl rfl)
theorem kE_cX11_practice : kDc cX11_practice 28124476078174240307120445772468310489560558830997724801619016810549904329007442476332156445114357114199525112528773282213131724447404164381786772420574704118495745324138581518785822281822198562925028615600700920426575388136726478888090887662561881491176361645421326791016478466426445748741821477930 124 := by unfold kDc; decide +kernel
theorem dX11_practice_0 : decode cX11_practice 0 = .ok (.aload_n 0, 1) := kD42 (kBe kE_cX11_practice rfl rfl)
theorem dX11_practice_1 : decode cX11_practice 1 = .ok (.getfield 33, 3) := kD180 (kBe kE_cX11_practice rfl rfl) (kBe kE_cX11_practice rfl rfl) (kBe kE_cX11_practice rfl rfl)
theorem dX11_practice_4 : decode cX11_practice 4 = .ok (.iload_n 1, 1) := kD27 (kBe kE_cX11_practice rfl rfl)
theorem dX11_practice_5 : decode cX11_practice 5 = .ok (.invokevirtual 149, 3) := kD182 (kBe kE_cX11_practice rfl rfl) (kBe kE_cX11_practice rfl rfl) (kBe kE_cX11_practice rfl rfl)
theorem dX11_practice_8 : decode cX11_practice 8 = .ok (.ifCond .eq 12, 3) := kD153 (kBe kE_cX11_practice rfl rfl) (kBe kE_cX11_practice rfl rfl) (kBe kE_cX11_practice rfl rfl) kS16_0_12
theorem dX11_practice_11 : decode cX11_practice 11 = .ok (.iload_n 2, 1) := kD28 (kBe kE_cX11_practice rfl rfl)
theorem dX11_practice_12 : decode cX11_practice 12 = .ok (.ifCond .lt 8, 3) := kD155 (kBe kE_cX11_practice rfl rfl) (kBe kE_cX11_practice rfl rfl) (kBe kE_cX11_practice rfl rfl) kS16_0_8
theorem dX11_practice_15 : decode cX11_practice 15 = .ok (.iload_n 2, 1) := kD28 (kBe kE_cX11_practice rfl rfl)
theorem dX11_practice_16 : decode cX11_practice 16 = .ok (.iconst 1, 1) := kD4 (kBe kE_cX11_practice rfl rfl)
theorem dX11_practice_17 : decode cX11_practice 17 = .ok (.if_icmp .le 6, 3) := kD164 (kBe kE_cX11_practice rfl rfl) (kBe kE_cX11_practice rfl rfl) (kBe kE_cX11_practice rfl rfl) kS16_0_6
theorem dX11_practice_20 : decode cX11_practice 20 = .ok (.bipush (-2), 2) := kD16 (kBe kE_cX11_practice rfl rfl) (kBe kE_cX11_practice rfl rfl) kS8_254
theorem dX11_practice_22 : decode cX11_practice 22 = .ok (.ireturn, 1) := kD172 (kBe kE_cX11_practice rfl rfl)
theorem dX11_practice_23 : decode cX11_practice 23 = .ok (.aload_n 0, 1) := kD42 (kBe kE_cX11_practice rfl rfl)
theorem dX11_practice_24 : decode cX11_practice 24 = .ok (.iload_n 1, 1) := kD27 (kBe kE_cX11_practice rfl rfl)
theorem dX11_practice_25 : decode cX11_practice 25 = .ok (.invokevirtual 150, 3) := kD182 (kBe kE_cX11_practice rfl rfl) (kBe kE_cX11_practice rfl rfl) (kBe kE_cX11_practice rfl rfl)
theorem dX11_practice_28 : decode cX11_practice 28 = .ok (.bipush 7, 2) := kD16 (kBe kE_cX11_practice rfl rfl) (kBe kE_cX11_practice rfl rfl) kS8_7
theorem dX11_practice_30 : decode cX11_practice 30 = .ok (.istore_n 3, 1) := kD62 (kBe kE_cX11_practice rfl rfl)
theorem dX11_practice_31 : decode cX11_practice 31 = .ok (.iconst (-1), 1) := kD2 (kBe kE_cX11_practice rfl rfl)
theorem dX11_practice_32 : decode cX11_practice 32 = .ok (.istore 4, 2) := kD54 (kBe kE_cX11_practice rfl rfl) (kBe kE_cX11_practice rfl rfl)
theorem dX11_practice_34 : decode cX11_practice 34 = .ok (.iconst 0, 1) := kD3 (kBe kE_cX11_practice rfl rfl)
theorem dX11_practice_35 : decode cX11_practice 35 = .ok (.istore 5, 2) := kD54 (kBe kE_cX11_practice rfl rfl) (kBe kE_cX11_practice rfl rfl)
theorem dX11_practice_37 : decode cX11_practice 37 = .ok (.iload 5, 2) := kD21 (kBe kE_cX11_practice rfl rfl) (kBe kE_cX11_practice rfl rfl)
theorem dX11_practice_39 : decode cX11_practice 39 = .ok (.bipush 64, 2) := kD16 (kBe kE_cX11_practice rfl rfl) (kBe kE_cX11_practice rfl rfl) kS8_64
theorem dX11_practice_41 : decode cX11_practice 41 = .ok (.if_icmp .ge 64, 3) := kD162 (kBe kE_cX11_practice rfl rfl) (kBe kE_cX11_practice rfl rfl) (kBe kE_cX11_practice rfl rfl) kS16_0_64
theorem dX11_practice_44 : decode cX11_practice 44 = .ok (.iload 5, 2) := kD21 (kBe kE_cX11_practice rfl rfl) (kBe kE_cX11_practice rfl rfl)
theorem dX11_practice_46 : decode cX11_practice 46 = .ok (.invokestatic 179, 3) := kD184 (kBe kE_cX11_practice rfl rfl) (kBe kE_cX11_practice rfl rfl) (kBe kE_cX11_practice rfl rfl)
theorem dX11_practice_49 : decode cX11_practice 49 = .ok (.istore 6, 2) := kD54 (kBe kE_cX11_practice rfl rfl) (kBe kE_cX11_practice rfl rfl)
theorem dX11_practice_51 : decode cX11_practice 51 = .ok (.iload 6, 2) := kD21 (kBe kE_cX11_practice rfl rfl) (kBe kE_cX11_practice rfl rfl)
theorem dX11_practice_53 : decode cX11_practice 53 = .ok (.iload_n 3, 1) := kD29 (kBe kE_cX11_practice rfl rfl)
theorem dX11_practice_54 : decode cX11_practice 54 = .ok (.if_icmp .ge 45, 3) := kD162 (kBe kE_cX11_practice rfl rfl) (kBe kE_cX11_practice rfl rfl) (kBe kE_cX11_practice rfl rfl) kS16_0_45
theorem dX11_practice_57 : decode cX11_practice 57 = .ok (.aload_n 0, 1) := kD42 (kBe kE_cX11_practice rfl rfl)
theorem dX11_practice_58 : decode cX11_practice 58 = .ok (.getfield 42, 3) := kD180 (kBe kE_cX11_practice rfl rfl) (kBe kE_cX11_practice rfl rfl) (kBe kE_cX11_practice rfl rfl)
theorem dX11_practice_61 : decode cX11_practice 61 = .ok (.iload 5, 2) := kD21 (kBe kE_cX11_practice rfl rfl) (kBe kE_cX11_practice rfl rfl)
theorem dX11_practice_63 : decode cX11_practice 63 = .ok (.putfield 184, 3) := kD181 (kBe kE_cX11_practice rfl rfl) (kBe kE_cX11_practice rfl rfl) (kBe kE_cX11_practice rfl rfl)
theorem dX11_practice_66 : decode cX11_practice 66 = .ok (.aload_n 0, 1) := kD42 (kBe kE_cX11_practice rfl rfl)
theorem dX11_practice_67 : decode cX11_practice 67 = .ok (.getfield 42, 3) := kD180 (kBe kE_cX11_practice rfl rfl) (kBe kE_cX11_practice rfl rfl) (kBe kE_cX11_practice rfl rfl)
theorem dX11_practice_70 : decode cX11_practice 70 = .ok (.aload_n 0, 1) := kD42 (kBe kE_cX11_practice rfl rfl)
theorem dX11_practice_71 : decode cX11_practice 71 = .ok (.getfield 33, 3) := kD180 (kBe kE_cX11_practice rfl rfl) (kBe kE_cX11_practice rfl rfl) (kBe kE_cX11_practice rfl rfl)
theorem dX11_practice_74 : decode cX11_practice 74 = .ok (.iload_n 1, 1) := kD27 (kBe kE_cX11_practice rfl rfl)
theorem dX11_practice_75 : decode cX11_practice 75 = .ok (.invokevirtual 153, 3) := kD182 (kBe kE_cX11_practice rfl rfl) (kBe kE_cX11_practice rfl rfl) (kBe kE_cX11_practice rfl rfl)
theorem dX11_practice_78 : decode cX11_practice 78 = .ok (.invokevirtual 156, 3) := kD182 (kBe kE_cX11_practice rfl rfl) (kBe kE_cX11_practice rfl rfl) (kBe kE_cX11_practice rfl rfl)
theorem dX11_practice_81 : decode cX11_practice 81 = .ok (.pop, 1) := kD87 (kBe kE_cX11_practice rfl rfl)
theorem dX11_practice_82 : decode cX11_practice 82 = .ok (.aload_n 0, 1) := kD42 (kBe kE_cX11_practice rfl rfl)
theorem dX11_practice_83 : decode cX11_practice 83 = .ok (.getfield 42, 3) := kD180 (kBe kE_cX11_practice rfl rfl) (kBe kE_cX11_practice rfl rfl) (kBe kE_cX11_practice rfl rfl)
theorem dX11_practice_86 : decode cX11_practice 86 = .ok (.getfield 159, 3) := kD180 (kBe kE_cX11_practice rfl rfl) (kBe kE_cX11_practice rfl rfl) (kBe kE_cX11_practice rfl rfl)
theorem dX11_practice_89 : decode cX11_practice 89 = .ok (.ifCond .ne 10, 3) := kD154 (kBe kE_cX11_practice rfl rfl) (kBe kE_cX11_practice rfl rfl) (kBe kE_cX11_practice rfl rfl) kS16_0_10
theorem dX11_practice_92 : decode cX11_practice 92 = .ok (.iload 6, 2) := kD21 (kBe kE_cX11_practice rfl rfl) (kBe kE_cX11_practice rfl rfl)
theorem dX11_practice_94 : decode cX11_practice 94 = .ok (.istore_n 3, 1) := kD62 (kBe kE_cX11_practice rfl rfl)
theorem dX11_practice_95 : decode cX11_practice 95 = .ok (.iload 5, 2) := kD21 (kBe kE_cX11_practice rfl rfl) (kBe kE_cX11_practice rfl rfl)
theorem dX11_practice_97 : decode cX11_practice 97 = .ok (.istore 4, 2) := kD54 (kBe kE_cX11_practice rfl rfl) (kBe kE_cX11_practice rfl rfl)
theorem dX11_practice_99 : decode cX11_practice 99 = .ok (.iinc 5 1, 3) := kD132 (kBe kE_cX11_practice rfl rfl) (kBe kE_cX11_practice rfl rfl) (kBe kE_cX11_practice rfl rfl) kS8_1
theorem dX11_practice_102 : decode cX11_practice 102 = .ok (.goto (-65), 3) := kD167 (kBe kE_cX11_practice rfl rfl) (kBe kE_cX11_practice rfl rfl) (kBe kE_cX11_practice rfl rfl) kS16_255_191
theorem dX11_practice_105 : decode cX11_practice 105 = .ok (.iload 4, 2) := kD21 (kBe kE_cX11_practice rfl rfl) (kBe kE_cX11_practice rfl rfl)
theorem dX11_practice_107 : decode cX11_practice 107 = .ok (.iconst (-1), 1) := kD2 (kBe kE_cX11_practice rfl rfl)
theorem dX11_practice_108 : decode cX11_practice 108 = .ok (.if_icmp .ne 5, 3) := kD160 (kBe kE_cX11_practice rfl rfl) (kBe kE_cX11_practice rfl rfl) (kBe kE_cX11_practice rfl rfl) kS16_0_5
theorem dX11_practice_111 : decode cX11_practice 111 = .ok (.iconst (-1), 1) := kD2 (kBe kE_cX11_practice rfl rfl)
theorem dX11_practice_112 : decode cX11_practice 112 = .ok (.ireturn, 1) := kD172 (kBe kE_cX11_practice rfl rfl)
theorem dX11_practice_113 : decode cX11_practice 113 = .ok (.iload_n 2, 1) := kD28 (kBe kE_cX11_practice rfl rfl)
theorem dX11_practice_114 : decode cX11_practice 114 = .ok (.ifCond .ne 7, 3) := kD154 (kBe kE_cX11_practice rfl rfl) (kBe kE_cX11_practice rfl rfl) (kBe kE_cX11_practice rfl rfl) kS16_0_7
theorem dX11_practice_117 : decode cX11_practice 117 = .ok (.iload_n 3, 1) := kD29 (kBe kE_cX11_practice rfl rfl)
theorem dX11_practice_118 : decode cX11_practice 118 = .ok (.goto 5, 3) := kD167 (kBe kE_cX11_practice rfl rfl) (kBe kE_cX11_practice rfl rfl) (kBe kE_cX11_practice rfl rfl) kS16_0_5
theorem dX11_practice_121 : decode cX11_practice 121 = .ok (.iload 4, 2) := kD21 (kBe kE_cX11_practice rfl rfl) (kBe kE_cX11_practice rfl rfl)
theorem dX11_practice_123 : decode cX11_practice 123 = .ok (.ireturn, 1) := kD172 (kBe kE_cX11_practice rfl rfl)
theorem kE_cX11_pair : kDc cX11_pair 176640155850435317268786608991556306329710264653169917016658602517340713459973182660864578381889002378261431703195971845917634818584291343598924272248967488579674964829555010556272421146844692313353803307343234425363838647511384961649814827262241135466886419055923853742256374866186242776586789025105190098351572725783869052187926851525343610650522321728554 148 := by unfold kDc; decide +kernel
theorem dX11_pair_0 : decode cX11_pair 0 = .ok (.aload_n 0, 1) := kD42 (kBe kE_cX11_pair rfl rfl)
theorem dX11_pair_1 : decode cX11_pair 1 = .ok (.getfield 33, 3) := kD180 (kBe kE_cX11_pair rfl rfl) (kBe kE_cX11_pair rfl rfl) (kBe kE_cX11_pair rfl rfl)
theorem dX11_pair_4 : decode cX11_pair 4 = .ok (.iload_n 1, 1) := kD27 (kBe kE_cX11_pair rfl rfl)
theorem dX11_pair_5 : decode cX11_pair 5 = .ok (.invokevirtual 149, 3) := kD182 (kBe kE_cX11_pair rfl rfl) (kBe kE_cX11_pair rfl rfl) (kBe kE_cX11_pair rfl rfl)
theorem dX11_pair_8 : decode cX11_pair 8 = .ok (.ifCond .eq 12, 3) := kD153 (kBe kE_cX11_pair rfl rfl) (kBe kE_cX11_pair rfl rfl) (kBe kE_cX11_pair rfl rfl) kS16_0_12
theorem dX11_pair_11 : decode cX11_pair 11 = .ok (.iload_n 2, 1) := kD28 (kBe kE_cX11_pair rfl rfl)
theorem dX11_pair_12 : decode cX11_pair 12 = .ok (.ifCond .lt 8, 3) := kD155 (kBe kE_cX11_pair rfl rfl) (kBe kE_cX11_pair rfl rfl) (kBe kE_cX11_pair rfl rfl) kS16_0_8
theorem dX11_pair_15 : decode cX11_pair 15 = .ok (.iload_n 2, 1) := kD28 (kBe kE_cX11_pair rfl rfl)
theorem dX11_pair_16 : decode cX11_pair 16 = .ok (.iconst 1, 1) := kD4 (kBe kE_cX11_pair rfl rfl)
theorem dX11_pair_17 : decode cX11_pair 17 = .ok (.if_icmp .le 6, 3) := kD164 (kBe kE_cX11_pair rfl rfl) (kBe kE_cX11_pair rfl rfl) (kBe kE_cX11_pair rfl rfl) kS16_0_6
theorem dX11_pair_20 : decode cX11_pair 20 = .ok (.bipush (-2), 2) := kD16 (kBe kE_cX11_pair rfl rfl) (kBe kE_cX11_pair rfl rfl) kS8_254
theorem dX11_pair_22 : decode cX11_pair 22 = .ok (.ireturn, 1) := kD172 (kBe kE_cX11_pair rfl rfl)
theorem dX11_pair_23 : decode cX11_pair 23 = .ok (.aload_n 0, 1) := kD42 (kBe kE_cX11_pair rfl rfl)
theorem dX11_pair_24 : decode cX11_pair 24 = .ok (.iload_n 1, 1) := kD27 (kBe kE_cX11_pair rfl rfl)
theorem dX11_pair_25 : decode cX11_pair 25 = .ok (.invokevirtual 150, 3) := kD182 (kBe kE_cX11_pair rfl rfl) (kBe kE_cX11_pair rfl rfl) (kBe kE_cX11_pair rfl rfl)
theorem dX11_pair_28 : decode cX11_pair 28 = .ok (.iconst (-1), 1) := kD2 (kBe kE_cX11_pair rfl rfl)
theorem dX11_pair_29 : decode cX11_pair 29 = .ok (.istore_n 3, 1) := kD62 (kBe kE_cX11_pair rfl rfl)
theorem dX11_pair_30 : decode cX11_pair 30 = .ok (.iconst (-1), 1) := kD2 (kBe kE_cX11_pair rfl rfl)
theorem dX11_pair_31 : decode cX11_pair 31 = .ok (.istore 4, 2) := kD54 (kBe kE_cX11_pair rfl rfl) (kBe kE_cX11_pair rfl rfl)
theorem dX11_pair_33 : decode cX11_pair 33 = .ok (.iconst 0, 1) := kD3 (kBe kE_cX11_pair rfl rfl)
theorem dX11_pair_34 : decode cX11_pair 34 = .ok (.istore 5, 2) := kD54 (kBe kE_cX11_pair rfl rfl) (kBe kE_cX11_pair rfl rfl)
theorem dX11_pair_36 : decode cX11_pair 36 = .ok (.iload 5, 2) := kD21 (kBe kE_cX11_pair rfl rfl) (kBe kE_cX11_pair rfl rfl)
theorem dX11_pair_38 : decode cX11_pair 38 = .ok (.aload_n 0, 1) := kD42 (kBe kE_cX11_pair rfl rfl)
theorem dX11_pair_39 : decode cX11_pair 39 = .ok (.getfield 26, 3) := kD180 (kBe kE_cX11_pair rfl rfl) (kBe kE_cX11_pair rfl rfl) (kBe kE_cX11_pair rfl rfl)
theorem dX11_pair_42 : decode cX11_pair 42 = .ok (.getfield 185, 3) := kD180 (kBe kE_cX11_pair rfl rfl) (kBe kE_cX11_pair rfl rfl) (kBe kE_cX11_pair rfl rfl)
theorem dX11_pair_45 : decode cX11_pair 45 = .ok (.if_icmp .ge 92, 3) := kD162 (kBe kE_cX11_pair rfl rfl) (kBe kE_cX11_pair rfl rfl) (kBe kE_cX11_pair rfl rfl) kS16_0_92
theorem dX11_pair_48 : decode cX11_pair 48 = .ok (.iconst 0, 1) := kD3 (kBe kE_cX11_pair rfl rfl)
theorem dX11_pair_49 : decode cX11_pair 49 = .ok (.istore 6, 2) := kD54 (kBe kE_cX11_pair rfl rfl) (kBe kE_cX11_pair rfl rfl)
theorem dX11_pair_51 : decode cX11_pair 51 = .ok (.iload 6, 2) := kD21 (kBe kE_cX11_pair rfl rfl) (kBe kE_cX11_pair rfl rfl)
theorem dX11_pair_53 : decode cX11_pair 53 = .ok (.aload_n 0, 1) := kD42 (kBe kE_cX11_pair rfl rfl)
theorem dX11_pair_54 : decode cX11_pair 54 = .ok (.getfield 26, 3) := kD180 (kBe kE_cX11_pair rfl rfl) (kBe kE_cX11_pair rfl rfl) (kBe kE_cX11_pair rfl rfl)
theorem dX11_pair_57 : decode cX11_pair 57 = .ok (.getfield 185, 3) := kD180 (kBe kE_cX11_pair rfl rfl) (kBe kE_cX11_pair rfl rfl) (kBe kE_cX11_pair rfl rfl)
theorem dX11_pair_60 : decode cX11_pair 60 = .ok (.if_icmp .ge 71, 3) := kD162 (kBe kE_cX11_pair rfl rfl) (kBe kE_cX11_pair rfl rfl) (kBe kE_cX11_pair rfl rfl) kS16_0_71
theorem dX11_pair_63 : decode cX11_pair 63 = .ok (.iload 5, 2) := kD21 (kBe kE_cX11_pair rfl rfl) (kBe kE_cX11_pair rfl rfl)
theorem dX11_pair_65 : decode cX11_pair 65 = .ok (.iload 6, 2) := kD21 (kBe kE_cX11_pair rfl rfl) (kBe kE_cX11_pair rfl rfl)
theorem dX11_pair_67 : decode cX11_pair 67 = .ok (.if_icmp .eq 58, 3) := kD159 (kBe kE_cX11_pair rfl rfl) (kBe kE_cX11_pair rfl rfl) (kBe kE_cX11_pair rfl rfl) kS16_0_58
theorem dX11_pair_70 : decode cX11_pair 70 = .ok (.aload_n 0, 1) := kD42 (kBe kE_cX11_pair rfl rfl)
theorem dX11_pair_71 : decode cX11_pair 71 = .ok (.getfield 42, 3) := kD180 (kBe kE_cX11_pair rfl rfl) (kBe kE_cX11_pair rfl rfl) (kBe kE_cX11_pair rfl rfl)
theorem dX11_pair_74 : decode cX11_pair 74 = .ok (.aload_n 0, 1) := kD42 (kBe kE_cX11_pair rfl rfl)
theorem dX11_pair_75 : decode cX11_pair 75 = .ok (.getfield 33, 3) := kD180 (kBe kE_cX11_pair rfl rfl) (kBe kE_cX11_pair rfl rfl) (kBe kE_cX11_pair rfl rfl)
theorem dX11_pair_78 : decode cX11_pair 78 = .ok (.iload_n 1, 1) := kD27 (kBe kE_cX11_pair rfl rfl)
theorem dX11_pair_79 : decode cX11_pair 79 = .ok (.invokevirtual 186, 3) := kD182 (kBe kE_cX11_pair rfl rfl) (kBe kE_cX11_pair rfl rfl) (kBe kE_cX11_pair rfl rfl)
theorem dX11_pair_82 : decode cX11_pair 82 = .ok (.iload 5, 2) := kD21 (kBe kE_cX11_pair rfl rfl) (kBe kE_cX11_pair rfl rfl)
theorem dX11_pair_84 : decode cX11_pair 84 = .ok (.iload 6, 2) := kD21 (kBe kE_cX11_pair rfl rfl) (kBe kE_cX11_pair rfl rfl)
theorem dX11_pair_86 : decode cX11_pair 86 = .ok (.invokevirtual 189, 3) := kD182 (kBe kE_cX11_pair rfl rfl) (kBe kE_cX11_pair rfl rfl) (kBe kE_cX11_pair rfl rfl)
theorem dX11_pair_89 : decode cX11_pair 89 = .ok (.aload_n 0, 1) := kD42 (kBe kE_cX11_pair rfl rfl)
theorem dX11_pair_90 : decode cX11_pair 90 = .ok (.getfield 42, 3) := kD180 (kBe kE_cX11_pair rfl rfl) (kBe kE_cX11_pair rfl rfl) (kBe kE_cX11_pair rfl rfl)
theorem dX11_pair_93 : decode cX11_pair 93 = .ok (.aload_n 0, 1) := kD42 (kBe kE_cX11_pair rfl rfl)
theorem dX11_pair_94 : decode cX11_pair 94 = .ok (.getfield 33, 3) := kD180 (kBe kE_cX11_pair rfl rfl) (kBe kE_cX11_pair rfl rfl) (kBe kE_cX11_pair rfl rfl)
theorem dX11_pair_97 : decode cX11_pair 97 = .ok (.iload_n 1, 1) := kD27 (kBe kE_cX11_pair rfl rfl)
theorem dX11_pair_98 : decode cX11_pair 98 = .ok (.invokevirtual 153, 3) := kD182 (kBe kE_cX11_pair rfl rfl) (kBe kE_cX11_pair rfl rfl) (kBe kE_cX11_pair rfl rfl)
theorem dX11_pair_101 : decode cX11_pair 101 = .ok (.invokevirtual 156, 3) := kD182 (kBe kE_cX11_pair rfl rfl) (kBe kE_cX11_pair rfl rfl) (kBe kE_cX11_pair rfl rfl)
theorem dX11_pair_104 : decode cX11_pair 104 = .ok (.istore 7, 2) := kD54 (kBe kE_cX11_pair rfl rfl) (kBe kE_cX11_pair rfl rfl)
theorem dX11_pair_106 : decode cX11_pair 106 = .ok (.iload 7, 2) := kD21 (kBe kE_cX11_pair rfl rfl) (kBe kE_cX11_pair rfl rfl)
theorem dX11_pair_108 : decode cX11_pair 108 = .ok (.iload_n 3, 1) := kD29 (kBe kE_cX11_pair rfl rfl)
theorem dX11_pair_109 : decode cX11_pair 109 = .ok (.if_icmp .le 16, 3) := kD164 (kBe kE_cX11_pair rfl rfl) (kBe kE_cX11_pair rfl rfl) (kBe kE_cX11_pair rfl rfl) kS16_0_16
theorem dX11_pair_112 : decode cX11_pair 112 = .ok (.iload 7, 2) := kD21 (kBe kE_cX11_pair rfl rfl) (kBe kE_cX11_pair rfl rfl)
theorem dX11_pair_114 : decode cX11_pair 114 = .ok (.istore_n 3, 1) := kD62 (kBe kE_cX11_pair rfl rfl)
theorem dX11_pair_115 : decode cX11_pair 115 = .ok (.bipush 8, 2) := kD16 (kBe kE_cX11_pair rfl rfl) (kBe kE_cX11_pair rfl rfl) kS8_8
theorem dX11_pair_117 : decode cX11_pair 117 = .ok (.iload 5, 2) := kD21 (kBe kE_cX11_pair rfl rfl) (kBe kE_cX11_pair rfl rfl)
theorem dX11_pair_119 : decode cX11_pair 119 = .ok (.imul, 1) := kD104 (kBe kE_cX11_pair rfl rfl)
theorem dX11_pair_120 : decode cX11_pair 120 = .ok (.iload 6, 2) := kD21 (kBe kE_cX11_pair rfl rfl) (kBe kE_cX11_pair rfl rfl)
theorem dX11_pair_122 : decode cX11_pair 122 = .ok (.iadd, 1) := kD96 (kBe kE_cX11_pair rfl rfl)
theorem dX11_pair_123 : decode cX11_pair 123 = .ok (.istore 4, 2) := kD54 (kBe kE_cX11_pair rfl rfl) (kBe kE_cX11_pair rfl rfl)
theorem dX11_pair_125 : decode cX11_pair 125 = .ok (.iinc 6 1, 3) := kD132 (kBe kE_cX11_pair rfl rfl) (kBe kE_cX11_pair rfl rfl) (kBe kE_cX11_pair rfl rfl) kS8_1
theorem dX11_pair_128 : decode cX11_pair 128 = .ok (.goto (-77), 3) := kD167 (kBe kE_cX11_pair rfl rfl) (kBe kE_cX11_pair rfl rfl) (kBe kE_cX11_pair rfl rfl) kS16_255_179
theorem dX11_pair_131 : decode cX11_pair 131 = .ok (.iinc 5 1, 3) := kD132 (kBe kE_cX11_pair rfl rfl) (kBe kE_cX11_pair rfl rfl) (kBe kE_cX11_pair rfl rfl) kS8_1
theorem dX11_pair_134 : decode cX11_pair 134 = .ok (.goto (-98), 3) := kD167 (kBe kE_cX11_pair rfl rfl) (kBe kE_cX11_pair rfl rfl) (kBe kE_cX11_pair rfl rfl) kS16_255_158
theorem dX11_pair_137 : decode cX11_pair 137 = .ok (.iload_n 2, 1) := kD28 (kBe kE_cX11_pair rfl rfl)
theorem dX11_pair_138 : decode cX11_pair 138 = .ok (.ifCond .ne 8, 3) := kD154 (kBe kE_cX11_pair rfl rfl) (kBe kE_cX11_pair rfl rfl) (kBe kE_cX11_pair rfl rfl) kS16_0_8
theorem dX11_pair_141 : decode cX11_pair 141 = .ok (.iload 4, 2) := kD21 (kBe kE_cX11_pair rfl rfl) (kBe kE_cX11_pair rfl rfl)
theorem dX11_pair_143 : decode cX11_pair 143 = .ok (.goto 4, 3) := kD167 (kBe kE_cX11_pair rfl rfl) (kBe kE_cX11_pair rfl rfl) (kBe kE_cX11_pair rfl rfl) kS16_0_4
theorem dX11_pair_146 : decode cX11_pair 146 = .ok (.iload_n 3, 1) := kD29 (kBe kE_cX11_pair rfl rfl)
theorem dX11_pair_147 : decode cX11_pair 147 = .ok (.ireturn, 1) := kD172 (kBe kE_cX11_pair rfl rfl)
theorem kE_cX11_seen : kDc cX11_seen 183512337441321156942062845743848895915013452380382255520783417171619028094875270805111645980015876569989454008265014678407171074705696676162095454386717429461507943374660476405368789787 77 := by unfold kDc; decide +kernel
theorem dX11_seen_0 : decode cX11_seen 0 = .ok (.iload_n 1, 1) := kD27 (kBe kE_cX11_seen rfl rfl)
theorem dX11_seen_1 : decode cX11_seen 1 = .ok (.ifCond .lt 19, 3) := kD155 (kBe kE_cX11_seen rfl rfl) (kBe kE_cX11_seen rfl rfl) (kBe kE_cX11_seen rfl rfl) kS16_0_19
theorem dX11_seen_4 : decode cX11_seen 4 = .ok (.iload_n 1, 1) := kD27 (kBe kE_cX11_seen rfl rfl)
theorem dX11_seen_5 : decode cX11_seen 5 = .ok (.bipush 8, 2) := kD16 (kBe kE_cX11_seen rfl rfl) (kBe kE_cX11_seen rfl rfl) kS8_8
theorem dX11_seen_7 : decode cX11_seen 7 = .ok (.if_icmp .ge 13, 3) := kD162 (kBe kE_cX11_seen rfl rfl) (kBe kE_cX11_seen rfl rfl) (kBe kE_cX11_seen rfl rfl) kS16_0_13
theorem dX11_seen_10 : decode cX11_seen 10 = .ok (.iload_n 2, 1) := kD28 (kBe kE_cX11_seen rfl rfl)
theorem dX11_seen_11 : decode cX11_seen 11 = .ok (.ifCond .lt 9, 3) := kD155 (kBe kE_cX11_seen rfl rfl) (kBe kE_cX11_seen rfl rfl) (kBe kE_cX11_seen rfl rfl) kS16_0_9
theorem dX11_seen_14 : decode cX11_seen 14 = .ok (.iload_n 2, 1) := kD28 (kBe kE_cX11_seen rfl rfl)
theorem dX11_seen_15 : decode cX11_seen 15 = .ok (.bipush 24, 2) := kD16 (kBe kE_cX11_seen rfl rfl) (kBe kE_cX11_seen rfl rfl) kS8_24
theorem dX11_seen_17 : decode cX11_seen 17 = .ok (.if_icmp .le 6, 3) := kD164 (kBe kE_cX11_seen rfl rfl) (kBe kE_cX11_seen rfl rfl) (kBe kE_cX11_seen rfl rfl) kS16_0_6
theorem dX11_seen_20 : decode cX11_seen 20 = .ok (.bipush (-2), 2) := kD16 (kBe kE_cX11_seen rfl rfl) (kBe kE_cX11_seen rfl rfl) kS8_254
theorem dX11_seen_22 : decode cX11_seen 22 = .ok (.ireturn, 1) := kD172 (kBe kE_cX11_seen rfl rfl)
theorem dX11_seen_23 : decode cX11_seen 23 = .ok (.aload_n 0, 1) := kD42 (kBe kE_cX11_seen rfl rfl)
theorem dX11_seen_24 : decode cX11_seen 24 = .ok (.getfield 193, 3) := kD180 (kBe kE_cX11_seen rfl rfl) (kBe kE_cX11_seen rfl rfl) (kBe kE_cX11_seen rfl rfl)
theorem dX11_seen_27 : decode cX11_seen 27 = .ok (.ifCond .lt 12, 3) := kD155 (kBe kE_cX11_seen rfl rfl) (kBe kE_cX11_seen rfl rfl) (kBe kE_cX11_seen rfl rfl) kS16_0_12
theorem dX11_seen_30 : decode cX11_seen 30 = .ok (.aload_n 0, 1) := kD42 (kBe kE_cX11_seen rfl rfl)
theorem dX11_seen_31 : decode cX11_seen 31 = .ok (.getfield 193, 3) := kD180 (kBe kE_cX11_seen rfl rfl) (kBe kE_cX11_seen rfl rfl) (kBe kE_cX11_seen rfl rfl)
theorem dX11_seen_34 : decode cX11_seen 34 = .ok (.bipush 8, 2) := kD16 (kBe kE_cX11_seen rfl rfl) (kBe kE_cX11_seen rfl rfl) kS8_8
theorem dX11_seen_36 : decode cX11_seen 36 = .ok (.if_icmp .lt 6, 3) := kD161 (kBe kE_cX11_seen rfl rfl) (kBe kE_cX11_seen rfl rfl) (kBe kE_cX11_seen rfl rfl) kS16_0_6
theorem dX11_seen_39 : decode cX11_seen 39 = .ok (.bipush (-4), 2) := kD16 (kBe kE_cX11_seen rfl rfl) (kBe kE_cX11_seen rfl rfl) kS8_252
theorem dX11_seen_41 : decode cX11_seen 41 = .ok (.ireturn, 1) := kD172 (kBe kE_cX11_seen rfl rfl)
theorem dX11_seen_42 : decode cX11_seen 42 = .ok (.aload_n 0, 1) := kD42 (kBe kE_cX11_seen rfl rfl)
theorem dX11_seen_43 : decode cX11_seen 43 = .ok (.getfield 67, 3) := kD180 (kBe kE_cX11_seen rfl rfl) (kBe kE_cX11_seen rfl rfl) (kBe kE_cX11_seen rfl rfl)
theorem dX11_seen_46 : decode cX11_seen 46 = .ok (.aload_n 0, 1) := kD42 (kBe kE_cX11_seen rfl rfl)
theorem dX11_seen_47 : decode cX11_seen 47 = .ok (.getfield 193, 3) := kD180 (kBe kE_cX11_seen rfl rfl) (kBe kE_cX11_seen rfl rfl) (kBe kE_cX11_seen rfl rfl)
theorem dX11_seen_50 : decode cX11_seen 50 = .ok (.iload_n 1, 1) := kD27 (kBe kE_cX11_seen rfl rfl)
theorem dX11_seen_51 : decode cX11_seen 51 = .ok (.iastore, 1) := kD79 (kBe kE_cX11_seen rfl rfl)
theorem dX11_seen_52 : decode cX11_seen 52 = .ok (.aload_n 0, 1) := kD42 (kBe kE_cX11_seen rfl rfl)
theorem dX11_seen_53 : decode cX11_seen 53 = .ok (.getfield 71, 3) := kD180 (kBe kE_cX11_seen rfl rfl) (kBe kE_cX11_seen rfl rfl) (kBe kE_cX11_seen rfl rfl)
theorem dX11_seen_56 : decode cX11_seen 56 = .ok (.aload_n 0, 1) := kD42 (kBe kE_cX11_seen rfl rfl)
theorem dX11_seen_57 : decode cX11_seen 57 = .ok (.getfield 193, 3) := kD180 (kBe kE_cX11_seen rfl rfl) (kBe kE_cX11_seen rfl rfl) (kBe kE_cX11_seen rfl rfl)
theorem dX11_seen_60 : decode cX11_seen 60 = .ok (.iload_n 2, 1) := kD28 (kBe kE_cX11_seen rfl rfl)
theorem dX11_seen_61 : decode cX11_seen 61 = .ok (.iastore, 1) := kD79 (kBe kE_cX11_seen rfl rfl)
theorem dX11_seen_62 : decode cX11_seen 62 = .ok (.aload_n 0, 1) := kD42 (kBe kE_cX11_seen rfl rfl)
theorem dX11_seen_63 : decode cX11_seen 63 = .ok (.dup, 1) := kD89 (kBe kE_cX11_seen rfl rfl)
theorem dX11_seen_64 : decode cX11_seen 64 = .ok (.getfield 193, 3) := kD180 (kBe kE_cX11_seen rfl rfl) (kBe kE_cX11_seen rfl rfl) (kBe kE_cX11_seen rfl rfl)
theorem dX11_seen_67 : decode cX11_seen 67 = .ok (.iconst 1, 1) := kD4 (kBe kE_cX11_seen rfl rfl)
theorem dX11_seen_68 : decode cX11_seen 68 = .ok (.iadd, 1) := kD96 (kBe kE_cX11_seen rfl rfl)
theorem dX11_seen_69 : decode cX11_seen 69 = .ok (.putfield 193, 3) := kD181 (kBe kE_cX11_seen rfl rfl) (kBe kE_cX11_seen rfl rfl) (kBe kE_cX11_seen rfl rfl)
theorem dX11_seen_72 : decode cX11_seen 72 = .ok (.aload_n 0, 1) := kD42 (kBe kE_cX11_seen rfl rfl)
theorem dX11_seen_73 : decode cX11_seen 73 = .ok (.getfield 193, 3) := kD180 (kBe kE_cX11_seen rfl rfl) (kBe kE_cX11_seen rfl rfl) (kBe kE_cX11_seen rfl rfl)
theorem dX11_seen_76 : decode cX11_seen 76 = .ok (.ireturn, 1) := kD172 (kBe kE_cX11_seen rfl rfl)
theorem kE_cX11_forget : kDc cX11_forget 53264974116175456036125193258 12 := by unfold kDc; decide +kernel
theorem dX11_forget_0 : decode cX11_forget 0 = .ok (.aload_n 0, 1) := kD42 (kBe kE_cX11_forget rfl rfl)
theorem dX11_forget_1 : decode cX11_forget 1 = .ok (.getfield 193, 3) := kD180 (kBe kE_cX11_forget rfl rfl) (kBe kE_cX11_forget rfl rfl) (kBe kE_cX11_forget rfl rfl)
theorem dX11_forget_4 : decode cX11_forget 4 = .ok (.istore_n 1, 1) := kD60 (kBe kE_cX11_forget rfl rfl)
theorem dX11_forget_5 : decode cX11_forget 5 = .ok (.aload_n 0, 1) := kD42 (kBe kE_cX11_forget rfl rfl)
theorem dX11_forget_6 : decode cX11_forget 6 = .ok (.iconst 0, 1) := kD3 (kBe kE_cX11_forget rfl rfl)
theorem dX11_forget_7 : decode cX11_forget 7 = .ok (.putfield 193, 3) := kD181 (kBe kE_cX11_forget rfl rfl) (kBe kE_cX11_forget rfl rfl) (kBe kE_cX11_forget rfl rfl)
theorem dX11_forget_10 : decode cX11_forget 10 = .ok (.iload_n 1, 1) := kD27 (kBe kE_cX11_forget rfl rfl)
theorem dX11_forget_11 : decode cX11_forget 11 = .ok (.ireturn, 1) := kD172 (kBe kE_cX11_forget rfl rfl)
theorem kE_cX11_sores : kDc cX11_sores 6781593542805306804963791969984208176006258940243561852621188972873384703297937685385766883477358708039785193026925610 49 := by unfold kDc; decide +kernel
theorem dX11_sores_0 : decode cX11_sores 0 = .ok (.aload_n 0, 1) := kD42 (kBe kE_cX11_sores rfl rfl)
theorem dX11_sores_1 : decode cX11_sores 1 = .ok (.getfield 19, 3) := kD180 (kBe kE_cX11_sores rfl rfl) (kBe kE_cX11_sores rfl rfl) (kBe kE_cX11_sores rfl rfl)
theorem dX11_sores_4 : decode cX11_sores 4 = .ok (.iload_n 1, 1) := kD27 (kBe kE_cX11_sores rfl rfl)
theorem dX11_sores_5 : decode cX11_sores 5 = .ok (.invokevirtual 115, 3) := kD182 (kBe kE_cX11_sores rfl rfl) (kBe kE_cX11_sores rfl rfl) (kBe kE_cX11_sores rfl rfl)
theorem dX11_sores_8 : decode cX11_sores 8 = .ok (.ifCond .ne 6, 3) := kD154 (kBe kE_cX11_sores rfl rfl) (kBe kE_cX11_sores rfl rfl) (kBe kE_cX11_sores rfl rfl) kS16_0_6
theorem dX11_sores_11 : decode cX11_sores 11 = .ok (.bipush (-2), 2) := kD16 (kBe kE_cX11_sores rfl rfl) (kBe kE_cX11_sores rfl rfl) kS8_254
theorem dX11_sores_13 : decode cX11_sores 13 = .ok (.ireturn, 1) := kD172 (kBe kE_cX11_sores rfl rfl)
theorem dX11_sores_14 : decode cX11_sores 14 = .ok (.iconst 0, 1) := kD3 (kBe kE_cX11_sores rfl rfl)
theorem dX11_sores_15 : decode cX11_sores 15 = .ok (.istore_n 2, 1) := kD61 (kBe kE_cX11_sores rfl rfl)
theorem dX11_sores_16 : decode cX11_sores 16 = .ok (.iconst 0, 1) := kD3 (kBe kE_cX11_sores rfl rfl)
theorem dX11_sores_17 : decode cX11_sores 17 = .ok (.istore_n 3, 1) := kD62 (kBe kE_cX11_sores rfl rfl)
theorem dX11_sores_18 : decode cX11_sores 18 = .ok (.iload_n 3, 1) := kD29 (kBe kE_cX11_sores rfl rfl)
theorem dX11_sores_19 : decode cX11_sores 19 = .ok (.bipush 6, 2) := kD16 (kBe kE_cX11_sores rfl rfl) (kBe kE_cX11_sores rfl rfl) kS8_6
theorem dX11_sores_21 : decode cX11_sores 21 = .ok (.if_icmp .ge 26, 3) := kD162 (kBe kE_cX11_sores rfl rfl) (kBe kE_cX11_sores rfl rfl) (kBe kE_cX11_sores rfl rfl) kS16_0_26
theorem dX11_sores_24 : decode cX11_sores 24 = .ok (.aload_n 0, 1) := kD42 (kBe kE_cX11_sores rfl rfl)
theorem dX11_sores_25 : decode cX11_sores 25 = .ok (.iload_n 1, 1) := kD27 (kBe kE_cX11_sores rfl rfl)
theorem dX11_sores_26 : decode cX11_sores 26 = .ok (.iload_n 3, 1) := kD29 (kBe kE_cX11_sores rfl rfl)
theorem dX11_sores_27 : decode cX11_sores 27 = .ok (.iconst (-1), 1) := kD2 (kBe kE_cX11_sores rfl rfl)
theorem dX11_sores_28 : decode cX11_sores 28 = .ok (.iconst (-1), 1) := kD2 (kBe kE_cX11_sores rfl rfl)
theorem dX11_sores_29 : decode cX11_sores 29 = .ok (.invokevirtual 196, 3) := kD182 (kBe kE_cX11_sores rfl rfl) (kBe kE_cX11_sores rfl rfl) (kBe kE_cX11_sores rfl rfl)
theorem dX11_sores_32 : decode cX11_sores 32 = .ok (.ifCond .eq 9, 3) := kD153 (kBe kE_cX11_sores rfl rfl) (kBe kE_cX11_sores rfl rfl) (kBe kE_cX11_sores rfl rfl) kS16_0_9
theorem dX11_sores_35 : decode cX11_sores 35 = .ok (.iload_n 2, 1) := kD28 (kBe kE_cX11_sores rfl rfl)
theorem dX11_sores_36 : decode cX11_sores 36 = .ok (.iconst 1, 1) := kD4 (kBe kE_cX11_sores rfl rfl)
theorem dX11_sores_37 : decode cX11_sores 37 = .ok (.iload_n 3, 1) := kD29 (kBe kE_cX11_sores rfl rfl)
theorem dX11_sores_38 : decode cX11_sores 38 = .ok (.ishl, 1) := kD120 (kBe kE_cX11_sores rfl rfl)
theorem dX11_sores_39 : decode cX11_sores 39 = .ok (.ior, 1) := kD128 (kBe kE_cX11_sores rfl rfl)
theorem dX11_sores_40 : decode cX11_sores 40 = .ok (.istore_n 2, 1) := kD61 (kBe kE_cX11_sores rfl rfl)
theorem dX11_sores_41 : decode cX11_sores 41 = .ok (.iinc 3 1, 3) := kD132 (kBe kE_cX11_sores rfl rfl) (kBe kE_cX11_sores rfl rfl) (kBe kE_cX11_sores rfl rfl) kS8_1
theorem dX11_sores_44 : decode cX11_sores 44 = .ok (.goto (-26), 3) := kD167 (kBe kE_cX11_sores rfl rfl) (kBe kE_cX11_sores rfl rfl) (kBe kE_cX11_sores rfl rfl) kS16_255_230
theorem dX11_sores_47 : decode cX11_sores 47 = .ok (.iload_n 2, 1) := kD28 (kBe kE_cX11_sores rfl rfl)
theorem dX11_sores_48 : decode cX11_sores 48 = .ok (.ireturn, 1) := kD172 (kBe kE_cX11_sores rfl rfl)
theorem kE_cX11_high : kDc cX11_high 6781593542805306804963791969984208176006258940244292392841164541053271148145457316742299760367767132479978965613720618 49 := by unfold kDc; decide +kernel
theorem dX11_high_0 : decode cX11_high 0 = .ok (.aload_n 0, 1) := kD42 (kBe kE_cX11_high rfl rfl)
theorem dX11_high_1 : decode cX11_high 1 = .ok (.getfield 33, 3) := kD180 (kBe kE_cX11_high rfl rfl) (kBe kE_cX11_high rfl rfl) (kBe kE_cX11_high rfl rfl)
theorem dX11_high_4 : decode cX11_high 4 = .ok (.iload_n 1, 1) := kD27 (kBe kE_cX11_high rfl rfl)
theorem dX11_high_5 : decode cX11_high 5 = .ok (.invokevirtual 149, 3) := kD182 (kBe kE_cX11_high rfl rfl) (kBe kE_cX11_high rfl rfl) (kBe kE_cX11_high rfl rfl)
theorem dX11_high_8 : decode cX11_high 8 = .ok (.ifCond .ne 6, 3) := kD154 (kBe kE_cX11_high rfl rfl) (kBe kE_cX11_high rfl rfl) (kBe kE_cX11_high rfl rfl) kS16_0_6
theorem dX11_high_11 : decode cX11_high 11 = .ok (.bipush (-2), 2) := kD16 (kBe kE_cX11_high rfl rfl) (kBe kE_cX11_high rfl rfl) kS8_254
theorem dX11_high_13 : decode cX11_high 13 = .ok (.ireturn, 1) := kD172 (kBe kE_cX11_high rfl rfl)
theorem dX11_high_14 : decode cX11_high 14 = .ok (.iconst 0, 1) := kD3 (kBe kE_cX11_high rfl rfl)
theorem dX11_high_15 : decode cX11_high 15 = .ok (.istore_n 2, 1) := kD61 (kBe kE_cX11_high rfl rfl)
theorem dX11_high_16 : decode cX11_high 16 = .ok (.iconst 1, 1) := kD4 (kBe kE_cX11_high rfl rfl)
theorem dX11_high_17 : decode cX11_high 17 = .ok (.istore_n 3, 1) := kD62 (kBe kE_cX11_high rfl rfl)
theorem dX11_high_18 : decode cX11_high 18 = .ok (.iload_n 3, 1) := kD29 (kBe kE_cX11_high rfl rfl)
theorem dX11_high_19 : decode cX11_high 19 = .ok (.bipush 9, 2) := kD16 (kBe kE_cX11_high rfl rfl) (kBe kE_cX11_high rfl rfl) kS8_9
theorem dX11_high_21 : decode cX11_high 21 = .ok (.if_icmp .gt 26, 3) := kD163 (kBe kE_cX11_high rfl rfl) (kBe kE_cX11_high rfl rfl) (kBe kE_cX11_high rfl rfl) kS16_0_26
theorem dX11_high_24 : decode cX11_high 24 = .ok (.aload_n 0, 1) := kD42 (kBe kE_cX11_high rfl rfl)
theorem dX11_high_25 : decode cX11_high 25 = .ok (.iconst (-1), 1) := kD2 (kBe kE_cX11_high rfl rfl)
theorem dX11_high_26 : decode cX11_high 26 = .ok (.iconst (-1), 1) := kD2 (kBe kE_cX11_high rfl rfl)
theorem dX11_high_27 : decode cX11_high 27 = .ok (.iload_n 1, 1) := kD27 (kBe kE_cX11_high rfl rfl)
theorem dX11_high_28 : decode cX11_high 28 = .ok (.iload_n 3, 1) := kD29 (kBe kE_cX11_high rfl rfl)
theorem dX11_high_29 : decode cX11_high 29 = .ok (.invokevirtual 196, 3) := kD182 (kBe kE_cX11_high rfl rfl) (kBe kE_cX11_high rfl rfl) (kBe kE_cX11_high rfl rfl)
theorem dX11_high_32 : decode cX11_high 32 = .ok (.ifCond .eq 9, 3) := kD153 (kBe kE_cX11_high rfl rfl) (kBe kE_cX11_high rfl rfl) (kBe kE_cX11_high rfl rfl) kS16_0_9
theorem dX11_high_35 : decode cX11_high 35 = .ok (.iload_n 2, 1) := kD28 (kBe kE_cX11_high rfl rfl)
theorem dX11_high_36 : decode cX11_high 36 = .ok (.iconst 1, 1) := kD4 (kBe kE_cX11_high rfl rfl)
theorem dX11_high_37 : decode cX11_high 37 = .ok (.iload_n 3, 1) := kD29 (kBe kE_cX11_high rfl rfl)
theorem dX11_high_38 : decode cX11_high 38 = .ok (.ishl, 1) := kD120 (kBe kE_cX11_high rfl rfl)
theorem dX11_high_39 : decode cX11_high 39 = .ok (.ior, 1) := kD128 (kBe kE_cX11_high rfl rfl)
theorem dX11_high_40 : decode cX11_high 40 = .ok (.istore_n 2, 1) := kD61 (kBe kE_cX11_high rfl rfl)
theorem dX11_high_41 : decode cX11_high 41 = .ok (.iinc 3 1, 3) := kD132 (kBe kE_cX11_high rfl rfl) (kBe kE_cX11_high rfl rfl) (kBe kE_cX11_high rfl rfl) kS8_1
theorem dX11_high_44 : decode cX11_high 44 = .ok (.goto (-26), 3) := kD167 (kBe kE_cX11_high rfl rfl) (kBe kE_cX11_high rfl rfl) (kBe kE_cX11_high rfl rfl) kS16_255_230
theorem dX11_high_47 : decode cX11_high 47 = .ok (.iload_n 2, 1) := kD28 (kBe kE_cX11_high rfl rfl)
theorem dX11_high_48 : decode cX11_high 48 = .ok (.ireturn, 1) := kD172 (kBe kE_cX11_high rfl rfl)
theorem kE_cX11_ask : kDc cX11_ask 42569669669099533275745079730814627553707462204455580739739991142546051533379996414367078763344300083095025735008596835775724094437882319468294830077026055740948211254685643818 73 := by unfold kDc; decide +kernel
theorem dX11_ask_0 : decode cX11_ask 0 = .ok (.aload_n 0, 1) := kD42 (kBe kE_cX11_ask rfl rfl)
theorem dX11_ask_1 : decode cX11_ask 1 = .ok (.getfield 19, 3) := kD180 (kBe kE_cX11_ask rfl rfl) (kBe kE_cX11_ask rfl rfl) (kBe kE_cX11_ask rfl rfl)
theorem dX11_ask_4 : decode cX11_ask 4 = .ok (.iload_n 1, 1) := kD27 (kBe kE_cX11_ask rfl rfl)
theorem dX11_ask_5 : decode cX11_ask 5 = .ok (.invokevirtual 115, 3) := kD182 (kBe kE_cX11_ask rfl rfl) (kBe kE_cX11_ask rfl rfl) (kBe kE_cX11_ask rfl rfl)
theorem dX11_ask_8 : decode cX11_ask 8 = .ok (.ifCond .ne 6, 3) := kD154 (kBe kE_cX11_ask rfl rfl) (kBe kE_cX11_ask rfl rfl) (kBe kE_cX11_ask rfl rfl) kS16_0_6
theorem dX11_ask_11 : decode cX11_ask 11 = .ok (.bipush (-2), 2) := kD16 (kBe kE_cX11_ask rfl rfl) (kBe kE_cX11_ask rfl rfl) kS8_254
theorem dX11_ask_13 : decode cX11_ask 13 = .ok (.ireturn, 1) := kD172 (kBe kE_cX11_ask rfl rfl)
theorem dX11_ask_14 : decode cX11_ask 14 = .ok (.aload_n 0, 1) := kD42 (kBe kE_cX11_ask rfl rfl)
theorem dX11_ask_15 : decode cX11_ask 15 = .ok (.iload_n 1, 1) := kD27 (kBe kE_cX11_ask rfl rfl)
theorem dX11_ask_16 : decode cX11_ask 16 = .ok (.invokevirtual 200, 3) := kD182 (kBe kE_cX11_ask rfl rfl) (kBe kE_cX11_ask rfl rfl) (kBe kE_cX11_ask rfl rfl)
theorem dX11_ask_19 : decode cX11_ask 19 = .ok (.istore_n 2, 1) := kD61 (kBe kE_cX11_ask rfl rfl)
theorem dX11_ask_20 : decode cX11_ask 20 = .ok (.iconst (-1), 1) := kD2 (kBe kE_cX11_ask rfl rfl)
theorem dX11_ask_21 : decode cX11_ask 21 = .ok (.istore_n 3, 1) := kD62 (kBe kE_cX11_ask rfl rfl)
theorem dX11_ask_22 : decode cX11_ask 22 = .ok (.bipush 7, 2) := kD16 (kBe kE_cX11_ask rfl rfl) (kBe kE_cX11_ask rfl rfl) kS8_7
theorem dX11_ask_24 : decode cX11_ask 24 = .ok (.istore 4, 2) := kD54 (kBe kE_cX11_ask rfl rfl) (kBe kE_cX11_ask rfl rfl)
theorem dX11_ask_26 : decode cX11_ask 26 = .ok (.iconst 0, 1) := kD3 (kBe kE_cX11_ask rfl rfl)
theorem dX11_ask_27 : decode cX11_ask 27 = .ok (.istore 5, 2) := kD54 (kBe kE_cX11_ask rfl rfl) (kBe kE_cX11_ask rfl rfl)
theorem dX11_ask_29 : decode cX11_ask 29 = .ok (.iload 5, 2) := kD21 (kBe kE_cX11_ask rfl rfl) (kBe kE_cX11_ask rfl rfl)
theorem dX11_ask_31 : decode cX11_ask 31 = .ok (.aload_n 0, 1) := kD42 (kBe kE_cX11_ask rfl rfl)
theorem dX11_ask_32 : decode cX11_ask 32 = .ok (.getfield 33, 3) := kD180 (kBe kE_cX11_ask rfl rfl) (kBe kE_cX11_ask rfl rfl) (kBe kE_cX11_ask rfl rfl)
theorem dX11_ask_35 : decode cX11_ask 35 = .ok (.getfield 128, 3) := kD180 (kBe kE_cX11_ask rfl rfl) (kBe kE_cX11_ask rfl rfl) (kBe kE_cX11_ask rfl rfl)
theorem dX11_ask_38 : decode cX11_ask 38 = .ok (.if_icmp .ge 33, 3) := kD162 (kBe kE_cX11_ask rfl rfl) (kBe kE_cX11_ask rfl rfl) (kBe kE_cX11_ask rfl rfl) kS16_0_33
theorem dX11_ask_41 : decode cX11_ask 41 = .ok (.aload_n 0, 1) := kD42 (kBe kE_cX11_ask rfl rfl)
theorem dX11_ask_42 : decode cX11_ask 42 = .ok (.iload 5, 2) := kD21 (kBe kE_cX11_ask rfl rfl) (kBe kE_cX11_ask rfl rfl)
theorem dX11_ask_44 : decode cX11_ask 44 = .ok (.iload_n 1, 1) := kD27 (kBe kE_cX11_ask rfl rfl)
theorem dX11_ask_45 : decode cX11_ask 45 = .ok (.iload_n 2, 1) := kD28 (kBe kE_cX11_ask rfl rfl)
theorem dX11_ask_46 : decode cX11_ask 46 = .ok (.invokevirtual 203, 3) := kD182 (kBe kE_cX11_ask rfl rfl) (kBe kE_cX11_ask rfl rfl) (kBe kE_cX11_ask rfl rfl)
theorem dX11_ask_49 : decode cX11_ask 49 = .ok (.istore 6, 2) := kD54 (kBe kE_cX11_ask rfl rfl) (kBe kE_cX11_ask rfl rfl)
theorem dX11_ask_51 : decode cX11_ask 51 = .ok (.iload 6, 2) := kD21 (kBe kE_cX11_ask rfl rfl) (kBe kE_cX11_ask rfl rfl)
theorem dX11_ask_53 : decode cX11_ask 53 = .ok (.iload 4, 2) := kD21 (kBe kE_cX11_ask rfl rfl) (kBe kE_cX11_ask rfl rfl)
theorem dX11_ask_55 : decode cX11_ask 55 = .ok (.if_icmp .ge 10, 3) := kD162 (kBe kE_cX11_ask rfl rfl) (kBe kE_cX11_ask rfl rfl) (kBe kE_cX11_ask rfl rfl) kS16_0_10
theorem dX11_ask_58 : decode cX11_ask 58 = .ok (.iload 6, 2) := kD21 (kBe kE_cX11_ask rfl rfl) (kBe kE_cX11_ask rfl rfl)
theorem dX11_ask_60 : decode cX11_ask 60 = .ok (.istore 4, 2) := kD54 (kBe kE_cX11_ask rfl rfl) (kBe kE_cX11_ask rfl rfl)
theorem dX11_ask_62 : decode cX11_ask 62 = .ok (.iload 5, 2) := kD21 (kBe kE_cX11_ask rfl rfl) (kBe kE_cX11_ask rfl rfl)
theorem dX11_ask_64 : decode cX11_ask 64 = .ok (.istore_n 3, 1) := kD62 (kBe kE_cX11_ask rfl rfl)
theorem dX11_ask_65 : decode cX11_ask 65 = .ok (.iinc 5 1, 3) := kD132 (kBe kE_cX11_ask rfl rfl) (kBe kE_cX11_ask rfl rfl) (kBe kE_cX11_ask rfl rfl) kS8_1
theorem dX11_ask_68 : decode cX11_ask 68 = .ok (.goto (-39), 3) := kD167 (kBe kE_cX11_ask rfl rfl) (kBe kE_cX11_ask rfl rfl) (kBe kE_cX11_ask rfl rfl) kS16_255_217
theorem dX11_ask_71 : decode cX11_ask 71 = .ok (.iload_n 3, 1) := kD29 (kBe kE_cX11_ask rfl rfl)
theorem dX11_ask_72 : decode cX11_ask 72 = .ok (.ireturn, 1) := kD172 (kBe kE_cX11_ask rfl rfl)
theorem kE_cX11_laugh : kDc cX11_laugh 62845610519998982807680795211205673018371621396410610132959524408060103281451261926777510135276994548818177351690524328714951913812844679222636755630084211650989160394527793903141822456411922929125562180579879676888083372827 93 := by unfold kDc; decide +kernel
theorem dX11_laugh_0 : decode cX11_laugh 0 = .ok (.iload_n 1, 1) := kD27 (kBe kE_cX11_laugh rfl rfl)
theorem dX11_laugh_1 : decode cX11_laugh 1 = .ok (.ifCond .lt 41, 3) := kD155 (kBe kE_cX11_laugh rfl rfl) (kBe kE_cX11_laugh rfl rfl) (kBe kE_cX11_laugh rfl rfl) kS16_0_41
theorem dX11_laugh_4 : decode cX11_laugh 4 = .ok (.iload_n 1, 1) := kD27 (kBe kE_cX11_laugh rfl rfl)
theorem dX11_laugh_5 : decode cX11_laugh 5 = .ok (.bipush 16, 2) := kD16 (kBe kE_cX11_laugh rfl rfl) (kBe kE_cX11_laugh rfl rfl) kS8_16
theorem dX11_laugh_7 : decode cX11_laugh 7 = .ok (.if_icmp .gt 35, 3) := kD163 (kBe kE_cX11_laugh rfl rfl) (kBe kE_cX11_laugh rfl rfl) (kBe kE_cX11_laugh rfl rfl) kS16_0_35
theorem dX11_laugh_10 : decode cX11_laugh 10 = .ok (.aload_n 0, 1) := kD42 (kBe kE_cX11_laugh rfl rfl)
theorem dX11_laugh_11 : decode cX11_laugh 11 = .ok (.getfield 33, 3) := kD180 (kBe kE_cX11_laugh rfl rfl) (kBe kE_cX11_laugh rfl rfl) (kBe kE_cX11_laugh rfl rfl)
theorem dX11_laugh_14 : decode cX11_laugh 14 = .ok (.iload_n 2, 1) := kD28 (kBe kE_cX11_laugh rfl rfl)
theorem dX11_laugh_15 : decode cX11_laugh 15 = .ok (.invokevirtual 149, 3) := kD182 (kBe kE_cX11_laugh rfl rfl) (kBe kE_cX11_laugh rfl rfl) (kBe kE_cX11_laugh rfl rfl)
theorem dX11_laugh_18 : decode cX11_laugh 18 = .ok (.ifCond .eq 24, 3) := kD153 (kBe kE_cX11_laugh rfl rfl) (kBe kE_cX11_laugh rfl rfl) (kBe kE_cX11_laugh rfl rfl) kS16_0_24
theorem dX11_laugh_21 : decode cX11_laugh 21 = .ok (.iload_n 3, 1) := kD29 (kBe kE_cX11_laugh rfl rfl)
theorem dX11_laugh_22 : decode cX11_laugh 22 = .ok (.ifCond .lt 20, 3) := kD155 (kBe kE_cX11_laugh rfl rfl) (kBe kE_cX11_laugh rfl rfl) (kBe kE_cX11_laugh rfl rfl) kS16_0_20
theorem dX11_laugh_25 : decode cX11_laugh 25 = .ok (.iload_n 3, 1) := kD29 (kBe kE_cX11_laugh rfl rfl)
theorem dX11_laugh_26 : decode cX11_laugh 26 = .ok (.iconst 1, 1) := kD4 (kBe kE_cX11_laugh rfl rfl)
theorem dX11_laugh_27 : decode cX11_laugh 27 = .ok (.if_icmp .gt 15, 3) := kD163 (kBe kE_cX11_laugh rfl rfl) (kBe kE_cX11_laugh rfl rfl) (kBe kE_cX11_laugh rfl rfl) kS16_0_15
theorem dX11_laugh_30 : decode cX11_laugh 30 = .ok (.aload_n 0, 1) := kD42 (kBe kE_cX11_laugh rfl rfl)
theorem dX11_laugh_31 : decode cX11_laugh 31 = .ok (.getfield 10, 3) := kD180 (kBe kE_cX11_laugh rfl rfl) (kBe kE_cX11_laugh rfl rfl) (kBe kE_cX11_laugh rfl rfl)
theorem dX11_laugh_34 : decode cX11_laugh 34 = .ok (.invokevirtual 206, 3) := kD182 (kBe kE_cX11_laugh rfl rfl) (kBe kE_cX11_laugh rfl rfl) (kBe kE_cX11_laugh rfl rfl)
theorem dX11_laugh_37 : decode cX11_laugh 37 = .ok (.bipush 10, 2) := kD16 (kBe kE_cX11_laugh rfl rfl) (kBe kE_cX11_laugh rfl rfl) kS8_10
theorem dX11_laugh_39 : decode cX11_laugh 39 = .ok (.if_icmp .le 7, 3) := kD164 (kBe kE_cX11_laugh rfl rfl) (kBe kE_cX11_laugh rfl rfl) (kBe kE_cX11_laugh rfl rfl) kS16_0_7
theorem dX11_laugh_42 : decode cX11_laugh 42 = .ok (.ldc2_w 210, 3) := kD20 (kBe kE_cX11_laugh rfl rfl) (kBe kE_cX11_laugh rfl rfl) (kBe kE_cX11_laugh rfl rfl)
theorem dX11_laugh_45 : decode cX11_laugh 45 = .ok (.lreturn, 1) := kD173 (kBe kE_cX11_laugh rfl rfl)
theorem dX11_laugh_46 : decode cX11_laugh 46 = .ok (.aload_n 0, 1) := kD42 (kBe kE_cX11_laugh rfl rfl)
theorem dX11_laugh_47 : decode cX11_laugh 47 = .ok (.iload_n 2, 1) := kD28 (kBe kE_cX11_laugh rfl rfl)
theorem dX11_laugh_48 : decode cX11_laugh 48 = .ok (.invokevirtual 150, 3) := kD182 (kBe kE_cX11_laugh rfl rfl) (kBe kE_cX11_laugh rfl rfl) (kBe kE_cX11_laugh rfl rfl)
theorem dX11_laugh_51 : decode cX11_laugh 51 = .ok (.aload_n 0, 1) := kD42 (kBe kE_cX11_laugh rfl rfl)
theorem dX11_laugh_52 : decode cX11_laugh 52 = .ok (.getfield 56, 3) := kD180 (kBe kE_cX11_laugh rfl rfl) (kBe kE_cX11_laugh rfl rfl) (kBe kE_cX11_laugh rfl rfl)
theorem dX11_laugh_55 : decode cX11_laugh 55 = .ok (.iload_n 1, 1) := kD27 (kBe kE_cX11_laugh rfl rfl)
theorem dX11_laugh_56 : decode cX11_laugh 56 = .ok (.aload_n 0, 1) := kD42 (kBe kE_cX11_laugh rfl rfl)
theorem dX11_laugh_57 : decode cX11_laugh 57 = .ok (.getfield 42, 3) := kD180 (kBe kE_cX11_laugh rfl rfl) (kBe kE_cX11_laugh rfl rfl) (kBe kE_cX11_laugh rfl rfl)
theorem dX11_laugh_60 : decode cX11_laugh 60 = .ok (.aload_n 0, 1) := kD42 (kBe kE_cX11_laugh rfl rfl)
theorem dX11_laugh_61 : decode cX11_laugh 61 = .ok (.getfield 33, 3) := kD180 (kBe kE_cX11_laugh rfl rfl) (kBe kE_cX11_laugh rfl rfl) (kBe kE_cX11_laugh rfl rfl)
theorem dX11_laugh_64 : decode cX11_laugh 64 = .ok (.iload_n 2, 1) := kD28 (kBe kE_cX11_laugh rfl rfl)
theorem dX11_laugh_65 : decode cX11_laugh 65 = .ok (.invokevirtual 153, 3) := kD182 (kBe kE_cX11_laugh rfl rfl) (kBe kE_cX11_laugh rfl rfl) (kBe kE_cX11_laugh rfl rfl)
theorem dX11_laugh_68 : decode cX11_laugh 68 = .ok (.invokevirtual 212, 3) := kD182 (kBe kE_cX11_laugh rfl rfl) (kBe kE_cX11_laugh rfl rfl) (kBe kE_cX11_laugh rfl rfl)
theorem dX11_laugh_71 : decode cX11_laugh 71 = .ok (.iload_n 3, 1) := kD29 (kBe kE_cX11_laugh rfl rfl)
theorem dX11_laugh_72 : decode cX11_laugh 72 = .ok (.ifCond .ne 13, 3) := kD154 (kBe kE_cX11_laugh rfl rfl) (kBe kE_cX11_laugh rfl rfl) (kBe kE_cX11_laugh rfl rfl) kS16_0_13
theorem dX11_laugh_75 : decode cX11_laugh 75 = .ok (.aload_n 0, 1) := kD42 (kBe kE_cX11_laugh rfl rfl)
theorem dX11_laugh_76 : decode cX11_laugh 76 = .ok (.getfield 56, 3) := kD180 (kBe kE_cX11_laugh rfl rfl) (kBe kE_cX11_laugh rfl rfl) (kBe kE_cX11_laugh rfl rfl)
theorem dX11_laugh_79 : decode cX11_laugh 79 = .ok (.getfield 216, 3) := kD180 (kBe kE_cX11_laugh rfl rfl) (kBe kE_cX11_laugh rfl rfl) (kBe kE_cX11_laugh rfl rfl)
theorem dX11_laugh_82 : decode cX11_laugh 82 = .ok (.goto 10, 3) := kD167 (kBe kE_cX11_laugh rfl rfl) (kBe kE_cX11_laugh rfl rfl) (kBe kE_cX11_laugh rfl rfl) kS16_0_10
theorem dX11_laugh_85 : decode cX11_laugh 85 = .ok (.aload_n 0, 1) := kD42 (kBe kE_cX11_laugh rfl rfl)
theorem dX11_laugh_86 : decode cX11_laugh 86 = .ok (.getfield 56, 3) := kD180 (kBe kE_cX11_laugh rfl rfl) (kBe kE_cX11_laugh rfl rfl) (kBe kE_cX11_laugh rfl rfl)
theorem dX11_laugh_89 : decode cX11_laugh 89 = .ok (.getfield 220, 3) := kD180 (kBe kE_cX11_laugh rfl rfl) (kBe kE_cX11_laugh rfl rfl) (kBe kE_cX11_laugh rfl rfl)
theorem dX11_laugh_92 : decode cX11_laugh 92 = .ok (.lreturn, 1) := kD173 (kBe kE_cX11_laugh rfl rfl)
theorem kE_cX11_lakes : kDc cX11_lakes 141088421423519841980381217336368375016259083228972776208844360612041262372745041445455524270462378868646569281784125620826474429092409591882481533058039065850422523927762198998540947019454925583734317946763262567786250988965401111956076879533910180077970263759215832975931562859746025021822205612210810000478684594021605108111114420985946494565459597631945008556481307695624282101465539058160527514727517675115714742463431723214166697559296141851274763646895363837872121262650560671723580104675501868060 209 := by unfold kDc; decide +kernel
theorem dX11_lakes_0 : decode cX11_lakes 0 = .ok (.iload_n 2, 1) := kD28 (kBe kE_cX11_lakes rfl rfl)
theorem dX11_lakes_1 : decode cX11_lakes 1 = .ok (.iconst 1, 1) := kD4 (kBe kE_cX11_lakes rfl rfl)
theorem dX11_lakes_2 : decode cX11_lakes 2 = .ok (.if_icmp .lt 18, 3) := kD161 (kBe kE_cX11_lakes rfl rfl) (kBe kE_cX11_lakes rfl rfl) (kBe kE_cX11_lakes rfl rfl) kS16_0_18
theorem dX11_lakes_5 : decode cX11_lakes 5 = .ok (.iload_n 2, 1) := kD28 (kBe kE_cX11_lakes rfl rfl)
theorem dX11_lakes_6 : decode cX11_lakes 6 = .ok (.bipush 99, 2) := kD16 (kBe kE_cX11_lakes rfl rfl) (kBe kE_cX11_lakes rfl rfl) kS8_99
theorem dX11_lakes_8 : decode cX11_lakes 8 = .ok (.if_icmp .gt 12, 3) := kD163 (kBe kE_cX11_lakes rfl rfl) (kBe kE_cX11_lakes rfl rfl) (kBe kE_cX11_lakes rfl rfl) kS16_0_12
theorem dX11_lakes_11 : decode cX11_lakes 11 = .ok (.iload_n 3, 1) := kD29 (kBe kE_cX11_lakes rfl rfl)
theorem dX11_lakes_12 : decode cX11_lakes 12 = .ok (.ifCond .lt 8, 3) := kD155 (kBe kE_cX11_lakes rfl rfl) (kBe kE_cX11_lakes rfl rfl) (kBe kE_cX11_lakes rfl rfl) kS16_0_8
theorem dX11_lakes_15 : decode cX11_lakes 15 = .ok (.iload_n 3, 1) := kD29 (kBe kE_cX11_lakes rfl rfl)
theorem dX11_lakes_16 : decode cX11_lakes 16 = .ok (.iconst 1, 1) := kD4 (kBe kE_cX11_lakes rfl rfl)
theorem dX11_lakes_17 : decode cX11_lakes 17 = .ok (.if_icmp .le 6, 3) := kD164 (kBe kE_cX11_lakes rfl rfl) (kBe kE_cX11_lakes rfl rfl) (kBe kE_cX11_lakes rfl rfl) kS16_0_6
theorem dX11_lakes_20 : decode cX11_lakes 20 = .ok (.bipush (-2), 2) := kD16 (kBe kE_cX11_lakes rfl rfl) (kBe kE_cX11_lakes rfl rfl) kS8_254
theorem dX11_lakes_22 : decode cX11_lakes 22 = .ok (.ireturn, 1) := kD172 (kBe kE_cX11_lakes rfl rfl)
theorem dX11_lakes_23 : decode cX11_lakes 23 = .ok (.aload_n 0, 1) := kD42 (kBe kE_cX11_lakes rfl rfl)
theorem dX11_lakes_24 : decode cX11_lakes 24 = .ok (.getfield 19, 3) := kD180 (kBe kE_cX11_lakes rfl rfl) (kBe kE_cX11_lakes rfl rfl) (kBe kE_cX11_lakes rfl rfl)
theorem dX11_lakes_27 : decode cX11_lakes 27 = .ok (.getfield 223, 3) := kD180 (kBe kE_cX11_lakes rfl rfl) (kBe kE_cX11_lakes rfl rfl) (kBe kE_cX11_lakes rfl rfl)
theorem dX11_lakes_30 : decode cX11_lakes 30 = .ok (.iconst 1, 1) := kD4 (kBe kE_cX11_lakes rfl rfl)
theorem dX11_lakes_31 : decode cX11_lakes 31 = .ok (.if_icmp .lt 14, 3) := kD161 (kBe kE_cX11_lakes rfl rfl) (kBe kE_cX11_lakes rfl rfl) (kBe kE_cX11_lakes rfl rfl) kS16_0_14
theorem dX11_lakes_34 : decode cX11_lakes 34 = .ok (.aload_n 0, 1) := kD42 (kBe kE_cX11_lakes rfl rfl)
theorem dX11_lakes_35 : decode cX11_lakes 35 = .ok (.getfield 26, 3) := kD180 (kBe kE_cX11_lakes rfl rfl) (kBe kE_cX11_lakes rfl rfl) (kBe kE_cX11_lakes rfl rfl)
theorem dX11_lakes_38 : decode cX11_lakes 38 = .ok (.getfield 185, 3) := kD180 (kBe kE_cX11_lakes rfl rfl) (kBe kE_cX11_lakes rfl rfl) (kBe kE_cX11_lakes rfl rfl)
theorem dX11_lakes_41 : decode cX11_lakes 41 = .ok (.iconst 2, 1) := kD5 (kBe kE_cX11_lakes rfl rfl)
theorem dX11_lakes_42 : decode cX11_lakes 42 = .ok (.if_icmp .ge 5, 3) := kD162 (kBe kE_cX11_lakes rfl rfl) (kBe kE_cX11_lakes rfl rfl) (kBe kE_cX11_lakes rfl rfl) kS16_0_5
theorem dX11_lakes_45 : decode cX11_lakes 45 = .ok (.iconst 0, 1) := kD3 (kBe kE_cX11_lakes rfl rfl)
theorem dX11_lakes_46 : decode cX11_lakes 46 = .ok (.ireturn, 1) := kD172 (kBe kE_cX11_lakes rfl rfl)
theorem dX11_lakes_47 : decode cX11_lakes 47 = .ok (.aload_n 0, 1) := kD42 (kBe kE_cX11_lakes rfl rfl)
theorem dX11_lakes_48 : decode cX11_lakes 48 = .ok (.getfield 63, 3) := kD180 (kBe kE_cX11_lakes rfl rfl) (kBe kE_cX11_lakes rfl rfl) (kBe kE_cX11_lakes rfl rfl)
theorem dX11_lakes_51 : decode cX11_lakes 51 = .ok (.iload_n 1, 1) := kD27 (kBe kE_cX11_lakes rfl rfl)
theorem dX11_lakes_52 : decode cX11_lakes 52 = .ok (.putfield 224, 3) := kD181 (kBe kE_cX11_lakes rfl rfl) (kBe kE_cX11_lakes rfl rfl) (kBe kE_cX11_lakes rfl rfl)
theorem dX11_lakes_55 : decode cX11_lakes 55 = .ok (.aload_n 0, 1) := kD42 (kBe kE_cX11_lakes rfl rfl)
theorem dX11_lakes_56 : decode cX11_lakes 56 = .ok (.getfield 42, 3) := kD180 (kBe kE_cX11_lakes rfl rfl) (kBe kE_cX11_lakes rfl rfl) (kBe kE_cX11_lakes rfl rfl)
theorem dX11_lakes_59 : decode cX11_lakes 59 = .ok (.aload_n 0, 1) := kD42 (kBe kE_cX11_lakes rfl rfl)
theorem dX11_lakes_60 : decode cX11_lakes 60 = .ok (.getfield 146, 3) := kD180 (kBe kE_cX11_lakes rfl rfl) (kBe kE_cX11_lakes rfl rfl) (kBe kE_cX11_lakes rfl rfl)
theorem dX11_lakes_63 : decode cX11_lakes 63 = .ok (.putfield 184, 3) := kD181 (kBe kE_cX11_lakes rfl rfl) (kBe kE_cX11_lakes rfl rfl) (kBe kE_cX11_lakes rfl rfl)
theorem dX11_lakes_66 : decode cX11_lakes 66 = .ok (.iload_n 3, 1) := kD29 (kBe kE_cX11_lakes rfl rfl)
theorem dX11_lakes_67 : decode cX11_lakes 67 = .ok (.ifCond .ne 7, 3) := kD154 (kBe kE_cX11_lakes rfl rfl) (kBe kE_cX11_lakes rfl rfl) (kBe kE_cX11_lakes rfl rfl) kS16_0_7
theorem dX11_lakes_70 : decode cX11_lakes 70 = .ok (.iconst 0, 1) := kD3 (kBe kE_cX11_lakes rfl rfl)
theorem dX11_lakes_71 : decode cX11_lakes 71 = .ok (.goto 4, 3) := kD167 (kBe kE_cX11_lakes rfl rfl) (kBe kE_cX11_lakes rfl rfl) (kBe kE_cX11_lakes rfl rfl) kS16_0_4
theorem dX11_lakes_74 : decode cX11_lakes 74 = .ok (.iconst 3, 1) := kD6 (kBe kE_cX11_lakes rfl rfl)
theorem dX11_lakes_75 : decode cX11_lakes 75 = .ok (.istore 4, 2) := kD54 (kBe kE_cX11_lakes rfl rfl) (kBe kE_cX11_lakes rfl rfl)
theorem dX11_lakes_77 : decode cX11_lakes 77 = .ok (.iconst 0, 1) := kD3 (kBe kE_cX11_lakes rfl rfl)
theorem dX11_lakes_78 : decode cX11_lakes 78 = .ok (.istore 5, 2) := kD54 (kBe kE_cX11_lakes rfl rfl) (kBe kE_cX11_lakes rfl rfl)
theorem dX11_lakes_80 : decode cX11_lakes 80 = .ok (.iconst 0, 1) := kD3 (kBe kE_cX11_lakes rfl rfl)
theorem dX11_lakes_81 : decode cX11_lakes 81 = .ok (.istore 6, 2) := kD54 (kBe kE_cX11_lakes rfl rfl) (kBe kE_cX11_lakes rfl rfl)
theorem dX11_lakes_83 : decode cX11_lakes 83 = .ok (.iload 6, 2) := kD21 (kBe kE_cX11_lakes rfl rfl) (kBe kE_cX11_lakes rfl rfl)
theorem dX11_lakes_85 : decode cX11_lakes 85 = .ok (.iload_n 2, 1) := kD28 (kBe kE_cX11_lakes rfl rfl)
theorem dX11_lakes_86 : decode cX11_lakes 86 = .ok (.if_icmp .ge 120, 3) := kD162 (kBe kE_cX11_lakes rfl rfl) (kBe kE_cX11_lakes rfl rfl) (kBe kE_cX11_lakes rfl rfl) kS16_0_120
theorem dX11_lakes_89 : decode cX11_lakes 89 = .ok (.aload_n 0, 1) := kD42 (kBe kE_cX11_lakes rfl rfl)
theorem dX11_lakes_90 : decode cX11_lakes 90 = .ok (.getfield 63, 3) := kD180 (kBe kE_cX11_lakes rfl rfl) (kBe kE_cX11_lakes rfl rfl) (kBe kE_cX11_lakes rfl rfl)
theorem dX11_lakes_93 : decode cX11_lakes 93 = .ok (.aload_n 0, 1) := kD42 (kBe kE_cX11_lakes rfl rfl)
theorem dX11_lakes_94 : decode cX11_lakes 94 = .ok (.getfield 19, 3) := kD180 (kBe kE_cX11_lakes rfl rfl) (kBe kE_cX11_lakes rfl rfl) (kBe kE_cX11_lakes rfl rfl)
theorem dX11_lakes_97 : decode cX11_lakes 97 = .ok (.getfield 223, 3) := kD180 (kBe kE_cX11_lakes rfl rfl) (kBe kE_cX11_lakes rfl rfl) (kBe kE_cX11_lakes rfl rfl)
theorem dX11_lakes_100 : decode cX11_lakes 100 = .ok (.invokevirtual 227, 3) := kD182 (kBe kE_cX11_lakes rfl rfl) (kBe kE_cX11_lakes rfl rfl) (kBe kE_cX11_lakes rfl rfl)
theorem dX11_lakes_103 : decode cX11_lakes 103 = .ok (.istore 7, 2) := kD54 (kBe kE_cX11_lakes rfl rfl) (kBe kE_cX11_lakes rfl rfl)
theorem dX11_lakes_105 : decode cX11_lakes 105 = .ok (.aload_n 0, 1) := kD42 (kBe kE_cX11_lakes rfl rfl)
theorem dX11_lakes_106 : decode cX11_lakes 106 = .ok (.getfield 63, 3) := kD180 (kBe kE_cX11_lakes rfl rfl) (kBe kE_cX11_lakes rfl rfl) (kBe kE_cX11_lakes rfl rfl)
theorem dX11_lakes_109 : decode cX11_lakes 109 = .ok (.aload_n 0, 1) := kD42 (kBe kE_cX11_lakes rfl rfl)
theorem dX11_lakes_110 : decode cX11_lakes 110 = .ok (.getfield 26, 3) := kD180 (kBe kE_cX11_lakes rfl rfl) (kBe kE_cX11_lakes rfl rfl) (kBe kE_cX11_lakes rfl rfl)
theorem dX11_lakes_113 : decode cX11_lakes 113 = .ok (.getfield 185, 3) := kD180 (kBe kE_cX11_lakes rfl rfl) (kBe kE_cX11_lakes rfl rfl) (kBe kE_cX11_lakes rfl rfl)
theorem dX11_lakes_116 : decode cX11_lakes 116 = .ok (.invokevirtual 227, 3) := kD182 (kBe kE_cX11_lakes rfl rfl) (kBe kE_cX11_lakes rfl rfl) (kBe kE_cX11_lakes rfl rfl)
theorem dX11_lakes_119 : decode cX11_lakes 119 = .ok (.istore 8, 2) := kD54 (kBe kE_cX11_lakes rfl rfl) (kBe kE_cX11_lakes rfl rfl)
theorem dX11_lakes_121 : decode cX11_lakes 121 = .ok (.aload_n 0, 1) := kD42 (kBe kE_cX11_lakes rfl rfl)
theorem dX11_lakes_122 : decode cX11_lakes 122 = .ok (.getfield 63, 3) := kD180 (kBe kE_cX11_lakes rfl rfl) (kBe kE_cX11_lakes rfl rfl) (kBe kE_cX11_lakes rfl rfl)
theorem dX11_lakes_125 : decode cX11_lakes 125 = .ok (.aload_n 0, 1) := kD42 (kBe kE_cX11_lakes rfl rfl)
theorem dX11_lakes_126 : decode cX11_lakes 126 = .ok (.getfield 26, 3) := kD180 (kBe kE_cX11_lakes rfl rfl) (kBe kE_cX11_lakes rfl rfl) (kBe kE_cX11_lakes rfl rfl)
theorem dX11_lakes_129 : decode cX11_lakes 129 = .ok (.getfield 185, 3) := kD180 (kBe kE_cX11_lakes rfl rfl) (kBe kE_cX11_lakes rfl rfl) (kBe kE_cX11_lakes rfl rfl)
theorem dX11_lakes_132 : decode cX11_lakes 132 = .ok (.iconst 1, 1) := kD4 (kBe kE_cX11_lakes rfl rfl)
theorem dX11_lakes_133 : decode cX11_lakes 133 = .ok (.isub, 1) := kD100 (kBe kE_cX11_lakes rfl rfl)
theorem dX11_lakes_134 : decode cX11_lakes 134 = .ok (.invokevirtual 227, 3) := kD182 (kBe kE_cX11_lakes rfl rfl) (kBe kE_cX11_lakes rfl rfl) (kBe kE_cX11_lakes rfl rfl)
theorem dX11_lakes_137 : decode cX11_lakes 137 = .ok (.istore 9, 2) := kD54 (kBe kE_cX11_lakes rfl rfl) (kBe kE_cX11_lakes rfl rfl)
theorem dX11_lakes_139 : decode cX11_lakes 139 = .ok (.aload_n 0, 1) := kD42 (kBe kE_cX11_lakes rfl rfl)
theorem dX11_lakes_140 : decode cX11_lakes 140 = .ok (.getfield 42, 3) := kD180 (kBe kE_cX11_lakes rfl rfl) (kBe kE_cX11_lakes rfl rfl) (kBe kE_cX11_lakes rfl rfl)
theorem dX11_lakes_143 : decode cX11_lakes 143 = .ok (.iload 7, 2) := kD21 (kBe kE_cX11_lakes rfl rfl) (kBe kE_cX11_lakes rfl rfl)
theorem dX11_lakes_145 : decode cX11_lakes 145 = .ok (.iload 8, 2) := kD21 (kBe kE_cX11_lakes rfl rfl) (kBe kE_cX11_lakes rfl rfl)
theorem dX11_lakes_147 : decode cX11_lakes 147 = .ok (.iload 9, 2) := kD21 (kBe kE_cX11_lakes rfl rfl) (kBe kE_cX11_lakes rfl rfl)
theorem dX11_lakes_149 : decode cX11_lakes 149 = .ok (.iload 8, 2) := kD21 (kBe kE_cX11_lakes rfl rfl) (kBe kE_cX11_lakes rfl rfl)
theorem dX11_lakes_151 : decode cX11_lakes 151 = .ok (.if_icmp .ge 8, 3) := kD162 (kBe kE_cX11_lakes rfl rfl) (kBe kE_cX11_lakes rfl rfl) (kBe kE_cX11_lakes rfl rfl) kS16_0_8
theorem dX11_lakes_154 : decode cX11_lakes 154 = .ok (.iload 9, 2) := kD21 (kBe kE_cX11_lakes rfl rfl) (kBe kE_cX11_lakes rfl rfl)
theorem dX11_lakes_156 : decode cX11_lakes 156 = .ok (.goto 7, 3) := kD167 (kBe kE_cX11_lakes rfl rfl) (kBe kE_cX11_lakes rfl rfl) (kBe kE_cX11_lakes rfl rfl) kS16_0_7
theorem dX11_lakes_159 : decode cX11_lakes 159 = .ok (.iload 9, 2) := kD21 (kBe kE_cX11_lakes rfl rfl) (kBe kE_cX11_lakes rfl rfl)
theorem dX11_lakes_161 : decode cX11_lakes 161 = .ok (.iconst 1, 1) := kD4 (kBe kE_cX11_lakes rfl rfl)
theorem dX11_lakes_162 : decode cX11_lakes 162 = .ok (.iadd, 1) := kD96 (kBe kE_cX11_lakes rfl rfl)
theorem dX11_lakes_163 : decode cX11_lakes 163 = .ok (.invokevirtual 189, 3) := kD182 (kBe kE_cX11_lakes rfl rfl) (kBe kE_cX11_lakes rfl rfl) (kBe kE_cX11_lakes rfl rfl)
theorem dX11_lakes_166 : decode cX11_lakes 166 = .ok (.aload_n 0, 1) := kD42 (kBe kE_cX11_lakes rfl rfl)
theorem dX11_lakes_167 : decode cX11_lakes 167 = .ok (.getfield 42, 3) := kD180 (kBe kE_cX11_lakes rfl rfl) (kBe kE_cX11_lakes rfl rfl) (kBe kE_cX11_lakes rfl rfl)
theorem dX11_lakes_170 : decode cX11_lakes 170 = .ok (.aload_n 0, 1) := kD42 (kBe kE_cX11_lakes rfl rfl)
theorem dX11_lakes_171 : decode cX11_lakes 171 = .ok (.getfield 63, 3) := kD180 (kBe kE_cX11_lakes rfl rfl) (kBe kE_cX11_lakes rfl rfl) (kBe kE_cX11_lakes rfl rfl)
theorem dX11_lakes_174 : decode cX11_lakes 174 = .ok (.bipush 9, 2) := kD16 (kBe kE_cX11_lakes rfl rfl) (kBe kE_cX11_lakes rfl rfl) kS8_9
theorem dX11_lakes_176 : decode cX11_lakes 176 = .ok (.invokevirtual 227, 3) := kD182 (kBe kE_cX11_lakes rfl rfl) (kBe kE_cX11_lakes rfl rfl) (kBe kE_cX11_lakes rfl rfl)
theorem dX11_lakes_179 : decode cX11_lakes 179 = .ok (.iconst 1, 1) := kD4 (kBe kE_cX11_lakes rfl rfl)
theorem dX11_lakes_180 : decode cX11_lakes 180 = .ok (.iadd, 1) := kD96 (kBe kE_cX11_lakes rfl rfl)
theorem dX11_lakes_181 : decode cX11_lakes 181 = .ok (.invokevirtual 156, 3) := kD182 (kBe kE_cX11_lakes rfl rfl) (kBe kE_cX11_lakes rfl rfl) (kBe kE_cX11_lakes rfl rfl)
theorem dX11_lakes_184 : decode cX11_lakes 184 = .ok (.pop, 1) := kD87 (kBe kE_cX11_lakes rfl rfl)
theorem dX11_lakes_185 : decode cX11_lakes 185 = .ok (.aload_n 0, 1) := kD42 (kBe kE_cX11_lakes rfl rfl)
theorem dX11_lakes_186 : decode cX11_lakes 186 = .ok (.getfield 42, 3) := kD180 (kBe kE_cX11_lakes rfl rfl) (kBe kE_cX11_lakes rfl rfl) (kBe kE_cX11_lakes rfl rfl)
theorem dX11_lakes_189 : decode cX11_lakes 189 = .ok (.getfield 159, 3) := kD180 (kBe kE_cX11_lakes rfl rfl) (kBe kE_cX11_lakes rfl rfl) (kBe kE_cX11_lakes rfl rfl)
theorem dX11_lakes_192 : decode cX11_lakes 192 = .ok (.iload 4, 2) := kD21 (kBe kE_cX11_lakes rfl rfl) (kBe kE_cX11_lakes rfl rfl)
theorem dX11_lakes_194 : decode cX11_lakes 194 = .ok (.if_icmp .ne 6, 3) := kD160 (kBe kE_cX11_lakes rfl rfl) (kBe kE_cX11_lakes rfl rfl) (kBe kE_cX11_lakes rfl rfl) kS16_0_6
theorem dX11_lakes_197 : decode cX11_lakes 197 = .ok (.iinc 5 1, 3) := kD132 (kBe kE_cX11_lakes rfl rfl) (kBe kE_cX11_lakes rfl rfl) (kBe kE_cX11_lakes rfl rfl) kS8_1
theorem dX11_lakes_200 : decode cX11_lakes 200 = .ok (.iinc 6 1, 3) := kD132 (kBe kE_cX11_lakes rfl rfl) (kBe kE_cX11_lakes rfl rfl) (kBe kE_cX11_lakes rfl rfl) kS8_1
theorem dX11_lakes_203 : decode cX11_lakes 203 = .ok (.goto (-120), 3) := kD167 (kBe kE_cX11_lakes rfl rfl) (kBe kE_cX11_lakes rfl rfl) (kBe kE_cX11_lakes rfl rfl) kS16_255_136
theorem dX11_lakes_206 : decode cX11_lakes 206 = .ok (.iload 5, 2) := kD21 (kBe kE_cX11_lakes rfl rfl) (kBe kE_cX11_lakes rfl rfl)
theorem dX11_lakes_208 : decode cX11_lakes 208 = .ok (.ireturn, 1) := kD172 (kBe kE_cX11_lakes rfl rfl)
theorem kE_cX11_sheet : kDc cX11_sheet 103481272305800982452563009475442670464681282226733943369649360475201817384924456307854552749228006702106304453418 47 := by unfold kDc; decide +kernel
theorem dX11_sheet_0 : decode cX11_sheet 0 = .ok (.aload_n 0, 1) := kD42 (kBe kE_cX11_sheet rfl rfl)
theorem dX11_sheet_1 : decode cX11_sheet 1 = .ok (.iload_n 1, 1) := kD27 (kBe kE_cX11_sheet rfl rfl)
theorem dX11_sheet_2 : decode cX11_sheet 2 = .ok (.invokevirtual 129, 3) := kD182 (kBe kE_cX11_sheet rfl rfl) (kBe kE_cX11_sheet rfl rfl) (kBe kE_cX11_sheet rfl rfl)
theorem dX11_sheet_5 : decode cX11_sheet 5 = .ok (.astore 4, 2) := kD58 (kBe kE_cX11_sheet rfl rfl) (kBe kE_cX11_sheet rfl rfl)
theorem dX11_sheet_7 : decode cX11_sheet 7 = .ok (.aload 4, 2) := kD25 (kBe kE_cX11_sheet rfl rfl) (kBe kE_cX11_sheet rfl rfl)
theorem dX11_sheet_9 : decode cX11_sheet 9 = .ok (.ifnull 16, 3) := kD198 (kBe kE_cX11_sheet rfl rfl) (kBe kE_cX11_sheet rfl rfl) (kBe kE_cX11_sheet rfl rfl) kS16_0_16
theorem dX11_sheet_12 : decode cX11_sheet 12 = .ok (.iload_n 2, 1) := kD28 (kBe kE_cX11_sheet rfl rfl)
theorem dX11_sheet_13 : decode cX11_sheet 13 = .ok (.invokestatic 230, 3) := kD184 (kBe kE_cX11_sheet rfl rfl) (kBe kE_cX11_sheet rfl rfl) (kBe kE_cX11_sheet rfl rfl)
theorem dX11_sheet_16 : decode cX11_sheet 16 = .ok (.ifCond .eq 9, 3) := kD153 (kBe kE_cX11_sheet rfl rfl) (kBe kE_cX11_sheet rfl rfl) (kBe kE_cX11_sheet rfl rfl) kS16_0_9
theorem dX11_sheet_19 : decode cX11_sheet 19 = .ok (.iload_n 3, 1) := kD29 (kBe kE_cX11_sheet rfl rfl)
theorem dX11_sheet_20 : decode cX11_sheet 20 = .ok (.bipush 60, 2) := kD16 (kBe kE_cX11_sheet rfl rfl) (kBe kE_cX11_sheet rfl rfl) kS8_60
theorem dX11_sheet_22 : decode cX11_sheet 22 = .ok (.if_icmp .le 6, 3) := kD164 (kBe kE_cX11_sheet rfl rfl) (kBe kE_cX11_sheet rfl rfl) (kBe kE_cX11_sheet rfl rfl) kS16_0_6
theorem dX11_sheet_25 : decode cX11_sheet 25 = .ok (.bipush (-2), 2) := kD16 (kBe kE_cX11_sheet rfl rfl) (kBe kE_cX11_sheet rfl rfl) kS8_254
theorem dX11_sheet_27 : decode cX11_sheet 27 = .ok (.ireturn, 1) := kD172 (kBe kE_cX11_sheet rfl rfl)
theorem dX11_sheet_28 : decode cX11_sheet 28 = .ok (.iload_n 3, 1) := kD29 (kBe kE_cX11_sheet rfl rfl)
theorem dX11_sheet_29 : decode cX11_sheet 29 = .ok (.ifCond .ge 9, 3) := kD156 (kBe kE_cX11_sheet rfl rfl) (kBe kE_cX11_sheet rfl rfl) (kBe kE_cX11_sheet rfl rfl) kS16_0_9
theorem dX11_sheet_32 : decode cX11_sheet 32 = .ok (.aload_n 0, 1) := kD42 (kBe kE_cX11_sheet rfl rfl)
theorem dX11_sheet_33 : decode cX11_sheet 33 = .ok (.iconst 5, 1) := kD8 (kBe kE_cX11_sheet rfl rfl)
theorem dX11_sheet_34 : decode cX11_sheet 34 = .ok (.invokevirtual 137, 3) := kD182 (kBe kE_cX11_sheet rfl rfl) (kBe kE_cX11_sheet rfl rfl) (kBe kE_cX11_sheet rfl rfl)
theorem dX11_sheet_37 : decode cX11_sheet 37 = .ok (.ireturn, 1) := kD172 (kBe kE_cX11_sheet rfl rfl)
theorem dX11_sheet_38 : decode cX11_sheet 38 = .ok (.aload 4, 2) := kD25 (kBe kE_cX11_sheet rfl rfl) (kBe kE_cX11_sheet rfl rfl)
theorem dX11_sheet_40 : decode cX11_sheet 40 = .ok (.iload_n 2, 1) := kD28 (kBe kE_cX11_sheet rfl rfl)
theorem dX11_sheet_41 : decode cX11_sheet 41 = .ok (.iload_n 3, 1) := kD29 (kBe kE_cX11_sheet rfl rfl)
theorem dX11_sheet_42 : decode cX11_sheet 42 = .ok (.invokevirtual 233, 3) := kD182 (kBe kE_cX11_sheet rfl rfl) (kBe kE_cX11_sheet rfl rfl) (kBe kE_cX11_sheet rfl rfl)
theorem dX11_sheet_45 : decode cX11_sheet 45 = .ok (.iload_n 3, 1) := kD29 (kBe kE_cX11_sheet rfl rfl)
theorem dX11_sheet_46 : decode cX11_sheet 46 = .ok (.ireturn, 1) := kD172 (kBe kE_cX11_sheet rfl rfl)
theorem kE_cX11_lose : kDc cX11_lose 335201467375974169378190924875372055861431753026718697854209688192913356202719520889642 36 := by unfold kDc; decide +kernel
theorem dX11_lose_0 : decode cX11_lose 0 = .ok (.aload_n 0, 1) := kD42 (kBe kE_cX11_lose rfl rfl)
theorem dX11_lose_1 : decode cX11_lose 1 = .ok (.iload_n 1, 1) := kD27 (kBe kE_cX11_lose rfl rfl)
theorem dX11_lose_2 : decode cX11_lose 2 = .ok (.invokevirtual 129, 3) := kD182 (kBe kE_cX11_lose rfl rfl) (kBe kE_cX11_lose rfl rfl) (kBe kE_cX11_lose rfl rfl)
theorem dX11_lose_5 : decode cX11_lose 5 = .ok (.astore_n 2, 1) := kD77 (kBe kE_cX11_lose rfl rfl)
theorem dX11_lose_6 : decode cX11_lose 6 = .ok (.aload_n 2, 1) := kD44 (kBe kE_cX11_lose rfl rfl)
theorem dX11_lose_7 : decode cX11_lose 7 = .ok (.ifnonnull 6, 3) := kD199 (kBe kE_cX11_lose rfl rfl) (kBe kE_cX11_lose rfl rfl) (kBe kE_cX11_lose rfl rfl) kS16_0_6
theorem dX11_lose_10 : decode cX11_lose 10 = .ok (.bipush (-2), 2) := kD16 (kBe kE_cX11_lose rfl rfl) (kBe kE_cX11_lose rfl rfl) kS8_254
theorem dX11_lose_12 : decode cX11_lose 12 = .ok (.ireturn, 1) := kD172 (kBe kE_cX11_lose rfl rfl)
theorem dX11_lose_13 : decode cX11_lose 13 = .ok (.aload_n 2, 1) := kD44 (kBe kE_cX11_lose rfl rfl)
theorem dX11_lose_14 : decode cX11_lose 14 = .ok (.getfield 133, 3) := kD180 (kBe kE_cX11_lose rfl rfl) (kBe kE_cX11_lose rfl rfl) (kBe kE_cX11_lose rfl rfl)
theorem dX11_lose_17 : decode cX11_lose 17 = .ok (.ifCond .eq 9, 3) := kD153 (kBe kE_cX11_lose rfl rfl) (kBe kE_cX11_lose rfl rfl) (kBe kE_cX11_lose rfl rfl) kS16_0_9
theorem dX11_lose_20 : decode cX11_lose 20 = .ok (.aload_n 0, 1) := kD42 (kBe kE_cX11_lose rfl rfl)
theorem dX11_lose_21 : decode cX11_lose 21 = .ok (.iconst 1, 1) := kD4 (kBe kE_cX11_lose rfl rfl)
theorem dX11_lose_22 : decode cX11_lose 22 = .ok (.invokevirtual 137, 3) := kD182 (kBe kE_cX11_lose rfl rfl) (kBe kE_cX11_lose rfl rfl) (kBe kE_cX11_lose rfl rfl)
theorem dX11_lose_25 : decode cX11_lose 25 = .ok (.ireturn, 1) := kD172 (kBe kE_cX11_lose rfl rfl)
theorem dX11_lose_26 : decode cX11_lose 26 = .ok (.aload_n 2, 1) := kD44 (kBe kE_cX11_lose rfl rfl)
theorem dX11_lose_27 : decode cX11_lose 27 = .ok (.iconst 1, 1) := kD4 (kBe kE_cX11_lose rfl rfl)
theorem dX11_lose_28 : decode cX11_lose 28 = .ok (.putfield 133, 3) := kD181 (kBe kE_cX11_lose rfl rfl) (kBe kE_cX11_lose rfl rfl) (kBe kE_cX11_lose rfl rfl)
theorem dX11_lose_31 : decode cX11_lose 31 = .ok (.aload_n 2, 1) := kD44 (kBe kE_cX11_lose rfl rfl)
theorem dX11_lose_32 : decode cX11_lose 32 = .ok (.getfield 140, 3) := kD180 (kBe kE_cX11_lose rfl rfl) (kBe kE_cX11_lose rfl rfl) (kBe kE_cX11_lose rfl rfl)
theorem dX11_lose_35 : decode cX11_lose 35 = .ok (.ireturn, 1) := kD172 (kBe kE_cX11_lose rfl rfl)
theorem kE_cX11_lay : kDc cX11_lay 1735143838586795313741368848370973169597063408448283276934010382324880677030974126203256177700443168856057575415125252906 50 := by unfold kDc; decide +kernel
theorem dX11_lay_0 : decode cX11_lay 0 = .ok (.aload_n 0, 1) := kD42 (kBe kE_cX11_lay rfl rfl)
theorem dX11_lay_1 : decode cX11_lay 1 = .ok (.iload_n 1, 1) := kD27 (kBe kE_cX11_lay rfl rfl)
theorem dX11_lay_2 : decode cX11_lay 2 = .ok (.invokevirtual 129, 3) := kD182 (kBe kE_cX11_lay rfl rfl) (kBe kE_cX11_lay rfl rfl) (kBe kE_cX11_lay rfl rfl)
theorem dX11_lay_5 : decode cX11_lay 5 = .ok (.astore 5, 2) := kD58 (kBe kE_cX11_lay rfl rfl) (kBe kE_cX11_lay rfl rfl)
theorem dX11_lay_7 : decode cX11_lay 7 = .ok (.aload 5, 2) := kD25 (kBe kE_cX11_lay rfl rfl) (kBe kE_cX11_lay rfl rfl)
theorem dX11_lay_9 : decode cX11_lay 9 = .ok (.ifnull 10, 3) := kD198 (kBe kE_cX11_lay rfl rfl) (kBe kE_cX11_lay rfl rfl) (kBe kE_cX11_lay rfl rfl) kS16_0_10
theorem dX11_lay_12 : decode cX11_lay 12 = .ok (.iload_n 2, 1) := kD28 (kBe kE_cX11_lay rfl rfl)
theorem dX11_lay_13 : decode cX11_lay 13 = .ok (.invokestatic 230, 3) := kD184 (kBe kE_cX11_lay rfl rfl) (kBe kE_cX11_lay rfl rfl) (kBe kE_cX11_lay rfl rfl)
theorem dX11_lay_16 : decode cX11_lay 16 = .ok (.ifCond .ne 6, 3) := kD154 (kBe kE_cX11_lay rfl rfl) (kBe kE_cX11_lay rfl rfl) (kBe kE_cX11_lay rfl rfl) kS16_0_6
theorem dX11_lay_19 : decode cX11_lay 19 = .ok (.bipush (-2), 2) := kD16 (kBe kE_cX11_lay rfl rfl) (kBe kE_cX11_lay rfl rfl) kS8_254
theorem dX11_lay_21 : decode cX11_lay 21 = .ok (.ireturn, 1) := kD172 (kBe kE_cX11_lay rfl rfl)
theorem dX11_lay_22 : decode cX11_lay 22 = .ok (.aload_n 0, 1) := kD42 (kBe kE_cX11_lay rfl rfl)
theorem dX11_lay_23 : decode cX11_lay 23 = .ok (.aload 5, 2) := kD25 (kBe kE_cX11_lay rfl rfl) (kBe kE_cX11_lay rfl rfl)
theorem dX11_lay_25 : decode cX11_lay 25 = .ok (.iload_n 2, 1) := kD28 (kBe kE_cX11_lay rfl rfl)
theorem dX11_lay_26 : decode cX11_lay 26 = .ok (.iload_n 3, 1) := kD29 (kBe kE_cX11_lay rfl rfl)
theorem dX11_lay_27 : decode cX11_lay 27 = .ok (.invokevirtual 237, 3) := kD182 (kBe kE_cX11_lay rfl rfl) (kBe kE_cX11_lay rfl rfl) (kBe kE_cX11_lay rfl rfl)
theorem dX11_lay_30 : decode cX11_lay 30 = .ok (.istore 6, 2) := kD54 (kBe kE_cX11_lay rfl rfl) (kBe kE_cX11_lay rfl rfl)
theorem dX11_lay_32 : decode cX11_lay 32 = .ok (.iload 6, 2) := kD21 (kBe kE_cX11_lay rfl rfl) (kBe kE_cX11_lay rfl rfl)
theorem dX11_lay_34 : decode cX11_lay 34 = .ok (.ifCond .eq 6, 3) := kD153 (kBe kE_cX11_lay rfl rfl) (kBe kE_cX11_lay rfl rfl) (kBe kE_cX11_lay rfl rfl) kS16_0_6
theorem dX11_lay_37 : decode cX11_lay 37 = .ok (.iload 6, 2) := kD21 (kBe kE_cX11_lay rfl rfl) (kBe kE_cX11_lay rfl rfl)
theorem dX11_lay_39 : decode cX11_lay 39 = .ok (.ireturn, 1) := kD172 (kBe kE_cX11_lay rfl rfl)
theorem dX11_lay_40 : decode cX11_lay 40 = .ok (.aload 5, 2) := kD25 (kBe kE_cX11_lay rfl rfl) (kBe kE_cX11_lay rfl rfl)
theorem dX11_lay_42 : decode cX11_lay 42 = .ok (.iload_n 3, 1) := kD29 (kBe kE_cX11_lay rfl rfl)
theorem dX11_lay_43 : decode cX11_lay 43 = .ok (.iload 4, 2) := kD21 (kBe kE_cX11_lay rfl rfl) (kBe kE_cX11_lay rfl rfl)
theorem dX11_lay_45 : decode cX11_lay 45 = .ok (.invokevirtual 241, 3) := kD182 (kBe kE_cX11_lay rfl rfl) (kBe kE_cX11_lay rfl rfl) (kBe kE_cX11_lay rfl rfl)
theorem dX11_lay_48 : decode cX11_lay 48 = .ok (.iconst 1, 1) := kD4 (kBe kE_cX11_lay rfl rfl)
theorem dX11_lay_49 : decode cX11_lay 49 = .ok (.ireturn, 1) := kD172 (kBe kE_cX11_lay rfl rfl)
theorem kE_cX11_get : kDc cX11_get 1439777118642412305527700102290922850889123529043202527413561310215896996052808358138619582880554 40 := by unfold kDc; decide +kernel
theorem dX11_get_0 : decode cX11_get 0 = .ok (.aload_n 0, 1) := kD42 (kBe kE_cX11_get rfl rfl)
theorem dX11_get_1 : decode cX11_get 1 = .ok (.iload_n 1, 1) := kD27 (kBe kE_cX11_get rfl rfl)
theorem dX11_get_2 : decode cX11_get 2 = .ok (.invokevirtual 129, 3) := kD182 (kBe kE_cX11_get rfl rfl) (kBe kE_cX11_get rfl rfl) (kBe kE_cX11_get rfl rfl)
theorem dX11_get_5 : decode cX11_get 5 = .ok (.astore 4, 2) := kD58 (kBe kE_cX11_get rfl rfl) (kBe kE_cX11_get rfl rfl)
theorem dX11_get_7 : decode cX11_get 7 = .ok (.aload 4, 2) := kD25 (kBe kE_cX11_get rfl rfl) (kBe kE_cX11_get rfl rfl)
theorem dX11_get_9 : decode cX11_get 9 = .ok (.ifnull 21, 3) := kD198 (kBe kE_cX11_get rfl rfl) (kBe kE_cX11_get rfl rfl) (kBe kE_cX11_get rfl rfl) kS16_0_21
theorem dX11_get_12 : decode cX11_get 12 = .ok (.iload_n 2, 1) := kD28 (kBe kE_cX11_get rfl rfl)
theorem dX11_get_13 : decode cX11_get 13 = .ok (.invokestatic 230, 3) := kD184 (kBe kE_cX11_get rfl rfl) (kBe kE_cX11_get rfl rfl) (kBe kE_cX11_get rfl rfl)
theorem dX11_get_16 : decode cX11_get 16 = .ok (.ifCond .eq 14, 3) := kD153 (kBe kE_cX11_get rfl rfl) (kBe kE_cX11_get rfl rfl) (kBe kE_cX11_get rfl rfl) kS16_0_14
theorem dX11_get_19 : decode cX11_get 19 = .ok (.aload_n 0, 1) := kD42 (kBe kE_cX11_get rfl rfl)
theorem dX11_get_20 : decode cX11_get 20 = .ok (.aload 4, 2) := kD25 (kBe kE_cX11_get rfl rfl) (kBe kE_cX11_get rfl rfl)
theorem dX11_get_22 : decode cX11_get 22 = .ok (.iload_n 2, 1) := kD28 (kBe kE_cX11_get rfl rfl)
theorem dX11_get_23 : decode cX11_get 23 = .ok (.iload_n 3, 1) := kD29 (kBe kE_cX11_get rfl rfl)
theorem dX11_get_24 : decode cX11_get 24 = .ok (.invokevirtual 237, 3) := kD182 (kBe kE_cX11_get rfl rfl) (kBe kE_cX11_get rfl rfl) (kBe kE_cX11_get rfl rfl)
theorem dX11_get_27 : decode cX11_get 27 = .ok (.ifCond .eq 6, 3) := kD153 (kBe kE_cX11_get rfl rfl) (kBe kE_cX11_get rfl rfl) (kBe kE_cX11_get rfl rfl) kS16_0_6
theorem dX11_get_30 : decode cX11_get 30 = .ok (.ldc 244, 2) := kD18 (kBe kE_cX11_get rfl rfl) (kBe kE_cX11_get rfl rfl)
theorem dX11_get_32 : decode cX11_get 32 = .ok (.ireturn, 1) := kD172 (kBe kE_cX11_get rfl rfl)
theorem dX11_get_33 : decode cX11_get 33 = .ok (.aload 4, 2) := kD25 (kBe kE_cX11_get rfl rfl) (kBe kE_cX11_get rfl rfl)
theorem dX11_get_35 : decode cX11_get 35 = .ok (.iload_n 3, 1) := kD29 (kBe kE_cX11_get rfl rfl)
theorem dX11_get_36 : decode cX11_get 36 = .ok (.invokevirtual 143, 3) := kD182 (kBe kE_cX11_get rfl rfl) (kBe kE_cX11_get rfl rfl) (kBe kE_cX11_get rfl rfl)
theorem dX11_get_39 : decode cX11_get 39 = .ok (.ireturn, 1) := kD172 (kBe kE_cX11_get rfl rfl)
theorem kE_cX11_copy : kDc cX11_copy 390313612260142485026143478228571439633689100383313021887922448083216222024898092684875658891465188651020744048627299667969899195985320572377056715393570172976004038287912781608001830862389123738088689568109631988887803689154658895170028378576363305143597606827365299354295315340074 117 := by unfold kDc; decide +kernel
theorem dX11_copy_0 : decode cX11_copy 0 = .ok (.aload_n 0, 1) := kD42 (kBe kE_cX11_copy rfl rfl)
theorem dX11_copy_1 : decode cX11_copy 1 = .ok (.iload_n 1, 1) := kD27 (kBe kE_cX11_copy rfl rfl)
theorem dX11_copy_2 : decode cX11_copy 2 = .ok (.invokevirtual 129, 3) := kD182 (kBe kE_cX11_copy rfl rfl) (kBe kE_cX11_copy rfl rfl) (kBe kE_cX11_copy rfl rfl)
theorem dX11_copy_5 : decode cX11_copy 5 = .ok (.astore 6, 2) := kD58 (kBe kE_cX11_copy rfl rfl) (kBe kE_cX11_copy rfl rfl)
theorem dX11_copy_7 : decode cX11_copy 7 = .ok (.aload_n 0, 1) := kD42 (kBe kE_cX11_copy rfl rfl)
theorem dX11_copy_8 : decode cX11_copy 8 = .ok (.iload_n 3, 1) := kD29 (kBe kE_cX11_copy rfl rfl)
theorem dX11_copy_9 : decode cX11_copy 9 = .ok (.invokevirtual 129, 3) := kD182 (kBe kE_cX11_copy rfl rfl) (kBe kE_cX11_copy rfl rfl) (kBe kE_cX11_copy rfl rfl)
theorem dX11_copy_12 : decode cX11_copy 12 = .ok (.astore 7, 2) := kD58 (kBe kE_cX11_copy rfl rfl) (kBe kE_cX11_copy rfl rfl)
theorem dX11_copy_14 : decode cX11_copy 14 = .ok (.aload 6, 2) := kD25 (kBe kE_cX11_copy rfl rfl) (kBe kE_cX11_copy rfl rfl)
theorem dX11_copy_16 : decode cX11_copy 16 = .ok (.ifnull 8, 3) := kD198 (kBe kE_cX11_copy rfl rfl) (kBe kE_cX11_copy rfl rfl) (kBe kE_cX11_copy rfl rfl) kS16_0_8
theorem dX11_copy_19 : decode cX11_copy 19 = .ok (.aload 7, 2) := kD25 (kBe kE_cX11_copy rfl rfl) (kBe kE_cX11_copy rfl rfl)
theorem dX11_copy_21 : decode cX11_copy 21 = .ok (.ifnonnull 6, 3) := kD199 (kBe kE_cX11_copy rfl rfl) (kBe kE_cX11_copy rfl rfl) (kBe kE_cX11_copy rfl rfl) kS16_0_6
theorem dX11_copy_24 : decode cX11_copy 24 = .ok (.bipush (-2), 2) := kD16 (kBe kE_cX11_copy rfl rfl) (kBe kE_cX11_copy rfl rfl) kS8_254
theorem dX11_copy_26 : decode cX11_copy 26 = .ok (.ireturn, 1) := kD172 (kBe kE_cX11_copy rfl rfl)
theorem dX11_copy_27 : decode cX11_copy 27 = .ok (.aload 6, 2) := kD25 (kBe kE_cX11_copy rfl rfl) (kBe kE_cX11_copy rfl rfl)
theorem dX11_copy_29 : decode cX11_copy 29 = .ok (.getfield 133, 3) := kD180 (kBe kE_cX11_copy rfl rfl) (kBe kE_cX11_copy rfl rfl) (kBe kE_cX11_copy rfl rfl)
theorem dX11_copy_32 : decode cX11_copy 32 = .ok (.ifCond .ne 11, 3) := kD154 (kBe kE_cX11_copy rfl rfl) (kBe kE_cX11_copy rfl rfl) (kBe kE_cX11_copy rfl rfl) kS16_0_11
theorem dX11_copy_35 : decode cX11_copy 35 = .ok (.aload 7, 2) := kD25 (kBe kE_cX11_copy rfl rfl) (kBe kE_cX11_copy rfl rfl)
theorem dX11_copy_37 : decode cX11_copy 37 = .ok (.getfield 133, 3) := kD180 (kBe kE_cX11_copy rfl rfl) (kBe kE_cX11_copy rfl rfl) (kBe kE_cX11_copy rfl rfl)
theorem dX11_copy_40 : decode cX11_copy 40 = .ok (.ifCond .eq 9, 3) := kD153 (kBe kE_cX11_copy rfl rfl) (kBe kE_cX11_copy rfl rfl) (kBe kE_cX11_copy rfl rfl) kS16_0_9
theorem dX11_copy_43 : decode cX11_copy 43 = .ok (.aload_n 0, 1) := kD42 (kBe kE_cX11_copy rfl rfl)
theorem dX11_copy_44 : decode cX11_copy 44 = .ok (.iconst 1, 1) := kD4 (kBe kE_cX11_copy rfl rfl)
theorem dX11_copy_45 : decode cX11_copy 45 = .ok (.invokevirtual 137, 3) := kD182 (kBe kE_cX11_copy rfl rfl) (kBe kE_cX11_copy rfl rfl) (kBe kE_cX11_copy rfl rfl)
theorem dX11_copy_48 : decode cX11_copy 48 = .ok (.ireturn, 1) := kD172 (kBe kE_cX11_copy rfl rfl)
theorem dX11_copy_49 : decode cX11_copy 49 = .ok (.aload 6, 2) := kD25 (kBe kE_cX11_copy rfl rfl) (kBe kE_cX11_copy rfl rfl)
theorem dX11_copy_51 : decode cX11_copy 51 = .ok (.getfield 245, 3) := kD180 (kBe kE_cX11_copy rfl rfl) (kBe kE_cX11_copy rfl rfl) (kBe kE_cX11_copy rfl rfl)
theorem dX11_copy_54 : decode cX11_copy 54 = .ok (.aload 7, 2) := kD25 (kBe kE_cX11_copy rfl rfl) (kBe kE_cX11_copy rfl rfl)
theorem dX11_copy_56 : decode cX11_copy 56 = .ok (.getfield 245, 3) := kD180 (kBe kE_cX11_copy rfl rfl) (kBe kE_cX11_copy rfl rfl) (kBe kE_cX11_copy rfl rfl)
theorem dX11_copy_59 : decode cX11_copy 59 = .ok (.if_icmp .eq 9, 3) := kD159 (kBe kE_cX11_copy rfl rfl) (kBe kE_cX11_copy rfl rfl) (kBe kE_cX11_copy rfl rfl) kS16_0_9
theorem dX11_copy_62 : decode cX11_copy 62 = .ok (.aload_n 0, 1) := kD42 (kBe kE_cX11_copy rfl rfl)
theorem dX11_copy_63 : decode cX11_copy 63 = .ok (.iconst 4, 1) := kD7 (kBe kE_cX11_copy rfl rfl)
theorem dX11_copy_64 : decode cX11_copy 64 = .ok (.invokevirtual 137, 3) := kD182 (kBe kE_cX11_copy rfl rfl) (kBe kE_cX11_copy rfl rfl) (kBe kE_cX11_copy rfl rfl)
theorem dX11_copy_67 : decode cX11_copy 67 = .ok (.ireturn, 1) := kD172 (kBe kE_cX11_copy rfl rfl)
theorem dX11_copy_68 : decode cX11_copy 68 = .ok (.aload 6, 2) := kD25 (kBe kE_cX11_copy rfl rfl) (kBe kE_cX11_copy rfl rfl)
theorem dX11_copy_70 : decode cX11_copy 70 = .ok (.iload_n 2, 1) := kD28 (kBe kE_cX11_copy rfl rfl)
theorem dX11_copy_71 : decode cX11_copy 71 = .ok (.iload 5, 2) := kD21 (kBe kE_cX11_copy rfl rfl) (kBe kE_cX11_copy rfl rfl)
theorem dX11_copy_73 : decode cX11_copy 73 = .ok (.invokevirtual 248, 3) := kD182 (kBe kE_cX11_copy rfl rfl) (kBe kE_cX11_copy rfl rfl) (kBe kE_cX11_copy rfl rfl)
theorem dX11_copy_76 : decode cX11_copy 76 = .ok (.ifCond .eq 15, 3) := kD153 (kBe kE_cX11_copy rfl rfl) (kBe kE_cX11_copy rfl rfl) (kBe kE_cX11_copy rfl rfl) kS16_0_15
theorem dX11_copy_79 : decode cX11_copy 79 = .ok (.aload 7, 2) := kD25 (kBe kE_cX11_copy rfl rfl) (kBe kE_cX11_copy rfl rfl)
theorem dX11_copy_81 : decode cX11_copy 81 = .ok (.iload 4, 2) := kD21 (kBe kE_cX11_copy rfl rfl) (kBe kE_cX11_copy rfl rfl)
theorem dX11_copy_83 : decode cX11_copy 83 = .ok (.iload 5, 2) := kD21 (kBe kE_cX11_copy rfl rfl) (kBe kE_cX11_copy rfl rfl)
theorem dX11_copy_85 : decode cX11_copy 85 = .ok (.invokevirtual 248, 3) := kD182 (kBe kE_cX11_copy rfl rfl) (kBe kE_cX11_copy rfl rfl) (kBe kE_cX11_copy rfl rfl)
theorem dX11_copy_88 : decode cX11_copy 88 = .ok (.ifCond .ne 9, 3) := kD154 (kBe kE_cX11_copy rfl rfl) (kBe kE_cX11_copy rfl rfl) (kBe kE_cX11_copy rfl rfl) kS16_0_9
theorem dX11_copy_91 : decode cX11_copy 91 = .ok (.aload_n 0, 1) := kD42 (kBe kE_cX11_copy rfl rfl)
theorem dX11_copy_92 : decode cX11_copy 92 = .ok (.iconst 2, 1) := kD5 (kBe kE_cX11_copy rfl rfl)
theorem dX11_copy_93 : decode cX11_copy 93 = .ok (.invokevirtual 137, 3) := kD182 (kBe kE_cX11_copy rfl rfl) (kBe kE_cX11_copy rfl rfl) (kBe kE_cX11_copy rfl rfl)
theorem dX11_copy_96 : decode cX11_copy 96 = .ok (.ireturn, 1) := kD172 (kBe kE_cX11_copy rfl rfl)
theorem dX11_copy_97 : decode cX11_copy 97 = .ok (.aload 6, 2) := kD25 (kBe kE_cX11_copy rfl rfl) (kBe kE_cX11_copy rfl rfl)
theorem dX11_copy_99 : decode cX11_copy 99 = .ok (.getfield 252, 3) := kD180 (kBe kE_cX11_copy rfl rfl) (kBe kE_cX11_copy rfl rfl) (kBe kE_cX11_copy rfl rfl)
theorem dX11_copy_102 : decode cX11_copy 102 = .ok (.iload_n 2, 1) := kD28 (kBe kE_cX11_copy rfl rfl)
theorem dX11_copy_103 : decode cX11_copy 103 = .ok (.aload 7, 2) := kD25 (kBe kE_cX11_copy rfl rfl) (kBe kE_cX11_copy rfl rfl)
theorem dX11_copy_105 : decode cX11_copy 105 = .ok (.getfield 252, 3) := kD180 (kBe kE_cX11_copy rfl rfl) (kBe kE_cX11_copy rfl rfl) (kBe kE_cX11_copy rfl rfl)
theorem dX11_copy_108 : decode cX11_copy 108 = .ok (.iload 4, 2) := kD21 (kBe kE_cX11_copy rfl rfl) (kBe kE_cX11_copy rfl rfl)
theorem dX11_copy_110 : decode cX11_copy 110 = .ok (.iload 5, 2) := kD21 (kBe kE_cX11_copy rfl rfl) (kBe kE_cX11_copy rfl rfl)
theorem dX11_copy_112 : decode cX11_copy 112 = .ok (.invokestatic 255, 3) := kD184 (kBe kE_cX11_copy rfl rfl) (kBe kE_cX11_copy rfl rfl) (kBe kE_cX11_copy rfl rfl)
theorem dX11_copy_115 : decode cX11_copy 115 = .ok (.iconst 1, 1) := kD4 (kBe kE_cX11_copy rfl rfl)
theorem dX11_copy_116 : decode cX11_copy 116 = .ok (.ireturn, 1) := kD172 (kBe kE_cX11_copy rfl rfl)
theorem kE_cX11_write : kDc cX11_write 4926460400489117503787290070433332944690793680342386736132815956687616591219944790413134709523452062831382514329205061077089798873222885363125176322596467058649632873415555406261601396025485601459712952925547333238945959820973236108975628705573543222570 105 := by unfold kDc; decide +kernel
theorem dX11_write_0 : decode cX11_write 0 = .ok (.aload_n 0, 1) := kD42 (kBe kE_cX11_write rfl rfl)
theorem dX11_write_1 : decode cX11_write 1 = .ok (.iload_n 3, 1) := kD29 (kBe kE_cX11_write rfl rfl)
theorem dX11_write_2 : decode cX11_write 2 = .ok (.invokevirtual 129, 3) := kD182 (kBe kE_cX11_write rfl rfl) (kBe kE_cX11_write rfl rfl) (kBe kE_cX11_write rfl rfl)
theorem dX11_write_5 : decode cX11_write 5 = .ok (.astore 4, 2) := kD58 (kBe kE_cX11_write rfl rfl) (kBe kE_cX11_write rfl rfl)
theorem dX11_write_7 : decode cX11_write 7 = .ok (.aload_n 0, 1) := kD42 (kBe kE_cX11_write rfl rfl)
theorem dX11_write_8 : decode cX11_write 8 = .ok (.getfield 33, 3) := kD180 (kBe kE_cX11_write rfl rfl) (kBe kE_cX11_write rfl rfl) (kBe kE_cX11_write rfl rfl)
theorem dX11_write_11 : decode cX11_write 11 = .ok (.iload_n 1, 1) := kD27 (kBe kE_cX11_write rfl rfl)
theorem dX11_write_12 : decode cX11_write 12 = .ok (.invokevirtual 149, 3) := kD182 (kBe kE_cX11_write rfl rfl) (kBe kE_cX11_write rfl rfl) (kBe kE_cX11_write rfl rfl)
theorem dX11_write_15 : decode cX11_write 15 = .ok (.ifCond .eq 17, 3) := kD153 (kBe kE_cX11_write rfl rfl) (kBe kE_cX11_write rfl rfl) (kBe kE_cX11_write rfl rfl) kS16_0_17
theorem dX11_write_18 : decode cX11_write 18 = .ok (.iload_n 2, 1) := kD28 (kBe kE_cX11_write rfl rfl)
theorem dX11_write_19 : decode cX11_write 19 = .ok (.ifCond .lt 13, 3) := kD155 (kBe kE_cX11_write rfl rfl) (kBe kE_cX11_write rfl rfl) (kBe kE_cX11_write rfl rfl) kS16_0_13
theorem dX11_write_22 : decode cX11_write 22 = .ok (.iload_n 2, 1) := kD28 (kBe kE_cX11_write rfl rfl)
theorem dX11_write_23 : decode cX11_write 23 = .ok (.iconst 1, 1) := kD4 (kBe kE_cX11_write rfl rfl)
theorem dX11_write_24 : decode cX11_write 24 = .ok (.if_icmp .gt 8, 3) := kD163 (kBe kE_cX11_write rfl rfl) (kBe kE_cX11_write rfl rfl) (kBe kE_cX11_write rfl rfl) kS16_0_8
theorem dX11_write_27 : decode cX11_write 27 = .ok (.aload 4, 2) := kD25 (kBe kE_cX11_write rfl rfl) (kBe kE_cX11_write rfl rfl)
theorem dX11_write_29 : decode cX11_write 29 = .ok (.ifnonnull 6, 3) := kD199 (kBe kE_cX11_write rfl rfl) (kBe kE_cX11_write rfl rfl) (kBe kE_cX11_write rfl rfl) kS16_0_6
theorem dX11_write_32 : decode cX11_write 32 = .ok (.bipush (-2), 2) := kD16 (kBe kE_cX11_write rfl rfl) (kBe kE_cX11_write rfl rfl) kS8_254
theorem dX11_write_34 : decode cX11_write 34 = .ok (.ireturn, 1) := kD172 (kBe kE_cX11_write rfl rfl)
theorem dX11_write_35 : decode cX11_write 35 = .ok (.aload 4, 2) := kD25 (kBe kE_cX11_write rfl rfl) (kBe kE_cX11_write rfl rfl)
theorem dX11_write_37 : decode cX11_write 37 = .ok (.getfield 133, 3) := kD180 (kBe kE_cX11_write rfl rfl) (kBe kE_cX11_write rfl rfl) (kBe kE_cX11_write rfl rfl)
theorem dX11_write_40 : decode cX11_write 40 = .ok (.ifCond .eq 9, 3) := kD153 (kBe kE_cX11_write rfl rfl) (kBe kE_cX11_write rfl rfl) (kBe kE_cX11_write rfl rfl) kS16_0_9
theorem dX11_write_43 : decode cX11_write 43 = .ok (.aload_n 0, 1) := kD42 (kBe kE_cX11_write rfl rfl)
theorem dX11_write_44 : decode cX11_write 44 = .ok (.iconst 1, 1) := kD4 (kBe kE_cX11_write rfl rfl)
theorem dX11_write_45 : decode cX11_write 45 = .ok (.invokevirtual 137, 3) := kD182 (kBe kE_cX11_write rfl rfl) (kBe kE_cX11_write rfl rfl) (kBe kE_cX11_write rfl rfl)
theorem dX11_write_48 : decode cX11_write 48 = .ok (.ireturn, 1) := kD172 (kBe kE_cX11_write rfl rfl)
theorem dX11_write_49 : decode cX11_write 49 = .ok (.aload_n 0, 1) := kD42 (kBe kE_cX11_write rfl rfl)
theorem dX11_write_50 : decode cX11_write 50 = .ok (.iload_n 1, 1) := kD27 (kBe kE_cX11_write rfl rfl)
theorem dX11_write_51 : decode cX11_write 51 = .ok (.invokevirtual 150, 3) := kD182 (kBe kE_cX11_write rfl rfl) (kBe kE_cX11_write rfl rfl) (kBe kE_cX11_write rfl rfl)
theorem dX11_write_54 : decode cX11_write 54 = .ok (.aload 4, 2) := kD25 (kBe kE_cX11_write rfl rfl) (kBe kE_cX11_write rfl rfl)
theorem dX11_write_56 : decode cX11_write 56 = .ok (.getfield 140, 3) := kD180 (kBe kE_cX11_write rfl rfl) (kBe kE_cX11_write rfl rfl) (kBe kE_cX11_write rfl rfl)
theorem dX11_write_59 : decode cX11_write 59 = .ok (.aload_n 0, 1) := kD42 (kBe kE_cX11_write rfl rfl)
theorem dX11_write_60 : decode cX11_write 60 = .ok (.getfield 10, 3) := kD180 (kBe kE_cX11_write rfl rfl) (kBe kE_cX11_write rfl rfl) (kBe kE_cX11_write rfl rfl)
theorem dX11_write_63 : decode cX11_write 63 = .ok (.getfield 108, 3) := kD180 (kBe kE_cX11_write rfl rfl) (kBe kE_cX11_write rfl rfl) (kBe kE_cX11_write rfl rfl)
