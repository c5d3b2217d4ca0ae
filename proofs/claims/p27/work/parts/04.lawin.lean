theorem lw_ps {big ws : List Cond} (ps : List Nat) (hp : ws = ps.filterMap (fun i => big[i]?)) : ∀ w ∈ ws, w ∈ big := by
  intro w hw
  rw [hp] at hw
  obtain ⟨i, -, hi⟩ := List.mem_filterMap.mp hw
  exact List.mem_of_getElem? hi
set_option maxRecDepth 20000 in
theorem lwi_wsL_law_r1 : ∀ w ∈ wsL_law_r1, w ∈ lw_tbl := lw_ps [71, 72, 55, 820, 821, 68, 73, 74, 75, 76, 77, 78, 79, 80, 57, 327, 122, 123, 59, 328, 133, 134, 60, 329] rfl
set_option maxRecDepth 20000 in
theorem lwi_wsL_law_r2 : ∀ w ∈ wsL_law_r2, w ∈ lw_tbl := lw_ps [144, 145, 61, 330, 158, 159, 62, 331, 254, 255, 64, 332, 273, 274, 65, 333, 292, 293, 66, 334, 121, 335, 336, 337] rfl
set_option maxRecDepth 20000 in
theorem lwi_wsL_law_r3 : ∀ w ∈ wsL_law_r3, w ∈ lw_tbl := lw_ps [303, 338, 305, 67, 81, 82, 83, 84, 85, 56, 86, 87, 100, 88, 89, 58, 90, 91, 124, 125, 126, 127, 135, 136] rfl
set_option maxRecDepth 20000 in
theorem lwi_wsL_law_r4 : ∀ w ∈ wsL_law_r4, w ∈ lw_tbl := lw_ps [137, 138, 147, 148, 149, 150, 160, 161, 162, 163, 164, 165, 63, 191, 192, 193, 195, 187, 189, 190, 167, 168, 169, 257] rfl
set_option maxRecDepth 20000 in
theorem lwi_wsL_law_r5 : ∀ w ∈ wsL_law_r5, w ∈ lw_tbl := lw_ps [258, 259, 276, 277, 278, 291, 279, 295, 296, 297, 307, 308, 309, 310, 312, 822, 823, 824, 825, 827, 828, 829, 830, 832] rfl
set_option maxRecDepth 20000 in
theorem lwi_wsL_law_r6 : ∀ w ∈ wsL_law_r6, w ∈ lw_tbl := lw_ps [833, 835, 837, 839, 841, 843, 850, 851, 852, 854, 855, 826, 847, 373, 374, 375, 376, 92, 377, 379, 3, 380, 381, 383] rfl
set_option maxRecDepth 20000 in
theorem lwi_wsL_law_r7 : ∀ w ∈ wsL_law_r7, w ∈ lw_tbl := lw_ps [384, 382, 387, 93, 385, 386, 388, 390, 391, 389, 394, 395, 397, 398, 399, 400, 401, 402, 403, 404, 405, 406, 407, 408] rfl
set_option maxRecDepth 20000 in
theorem lwi_wsL_law_r8 : ∀ w ∈ wsL_law_r8, w ∈ lw_tbl := lw_ps [409, 410, 1250, 0, 412, 413, 107, 414, 416, 417, 415, 420, 418, 419, 421, 423, 424, 425, 426, 427, 428, 429, 430, 431] rfl
set_option maxRecDepth 20000 in
theorem lwi_wsL_law_r9 : ∀ w ∈ wsL_law_r9, w ∈ lw_tbl := lw_ps [432, 1, 2, 392, 393, 958, 959, 960, 961, 965, 962, 963, 964, 929, 926, 927, 928, 433, 434, 435, 436, 437, 439, 440] rfl
set_option maxRecDepth 20000 in
theorem lwi_wsL_law_r10 : ∀ w ∈ wsL_law_r10, w ∈ lw_tbl := lw_ps [438, 443, 444, 445, 446, 441, 442, 966, 967, 968, 969, 447, 448, 449, 450, 970, 971, 972, 973, 451, 452, 453, 454, 101] rfl
set_option maxRecDepth 20000 in
theorem lwi_wsL_law_r11 : ∀ w ∈ wsL_law_r11, w ∈ lw_tbl := lw_ps [974, 975, 976, 977, 978, 980, 22, 981, 982, 984, 23, 985, 834, 986, 987, 988, 989, 990, 991, 992, 993, 994, 996, 24] rfl
set_option maxRecDepth 20000 in
theorem lwi_wsL_law_r12 : ∀ w ∈ wsL_law_r12, w ∈ lw_tbl := lw_ps [997, 836, 998, 999, 1000, 1001, 1002, 1003, 1004, 1005, 1007, 25, 1008, 838, 1009, 1010, 1011, 455, 456, 457, 458, 106, 103, 459] rfl
set_option maxRecDepth 20000 in
theorem lwi_wsL_law_r13 : ∀ w ∈ wsL_law_r13, w ∈ lw_tbl := lw_ps [460, 462, 1012, 1013, 1014, 1015, 1020, 1016, 1018, 26, 1019, 463, 464, 465, 466, 467, 468, 470, 471, 472, 473, 474, 475, 476] rfl
set_option maxRecDepth 20000 in
theorem lwi_wsL_law_r14 : ∀ w ∈ wsL_law_r14, w ∈ lw_tbl := lw_ps [477, 478, 479, 1021, 1022, 1023, 1024, 925, 1025, 1027, 27, 1028, 480, 481, 482, 483, 484, 485, 486, 487, 488, 489, 490, 491] rfl
set_option maxRecDepth 20000 in
theorem lwi_wsL_law_r15 : ∀ w ∈ wsL_law_r15, w ∈ lw_tbl := lw_ps [492, 493, 1029, 1030, 1031, 1032, 1033, 1035, 28, 1036, 1037, 1038, 1039, 494, 495, 496, 497, 498, 499, 500, 501, 151, 1040, 1041] rfl
set_option maxRecDepth 20000 in
theorem lwi_wsL_law_r16 : ∀ w ∈ wsL_law_r16, w ∈ lw_tbl := lw_ps [1042, 1043, 1044, 1045, 840, 502, 503, 504, 505, 152, 1046, 1047, 1048, 1049, 506, 507, 508, 509, 313, 317, 510, 512, 4, 513] rfl
set_option maxRecDepth 20000 in
theorem lwi_wsL_law_r17 : ∀ w ∈ wsL_law_r17, w ∈ lw_tbl := lw_ps [514, 516, 5, 517, 341, 518, 519, 520, 521, 316, 1050, 1051, 1052, 1053, 922, 923, 924, 930, 932, 20, 933, 831, 1054, 522] rfl
set_option maxRecDepth 20000 in
theorem lwi_wsL_law_r18 : ∀ w ∈ wsL_law_r18, w ∈ lw_tbl := lw_ps [523, 524, 525, 340, 1055, 1056, 1057, 1058, 1059, 842, 526, 527, 528, 529, 218, 530, 531, 532, 533, 534, 536, 6, 537, 210] rfl
set_option maxRecDepth 20000 in
theorem lwi_wsL_law_r19 : ∀ w ∈ wsL_law_r19, w ∈ lw_tbl := lw_ps [538, 539, 540, 541, 542, 544, 7, 545, 546, 547, 548, 549, 550, 551, 552, 553, 554, 555, 556, 557, 558, 198, 201, 203] rfl
set_option maxRecDepth 20000 in
theorem lwi_wsL_law_r20 : ∀ w ∈ wsL_law_r20, w ∈ lw_tbl := lw_ps [204, 206, 208, 171, 172, 104, 559, 560, 561, 562, 563, 564, 565, 566, 175, 567, 568, 569, 570, 170, 174, 177, 571, 572] rfl
set_option maxRecDepth 20000 in
theorem lwi_wsL_law_r21 : ∀ w ∈ wsL_law_r21, w ∈ lw_tbl := lw_ps [573, 574, 575, 173, 576, 577, 578, 579, 580, 581, 582, 583, 584, 585, 586, 587, 588, 589, 590, 591, 212, 214, 217, 592] rfl
set_option maxRecDepth 20000 in
theorem lwi_wsL_law_r22 : ∀ w ∈ wsL_law_r22, w ∈ lw_tbl := lw_ps [593, 594, 595, 596, 597, 598, 599, 600, 209, 601, 602, 603, 604, 605, 606, 607, 608, 1060, 1061, 1062, 1063, 1064, 1066, 29] rfl
set_option maxRecDepth 20000 in
theorem lwi_wsL_law_r23 : ∀ w ∈ wsL_law_r23, w ∈ lw_tbl := lw_ps [1067, 1068, 1070, 30, 1071, 1072, 1074, 31, 1075, 1076, 1078, 32, 1079, 844, 845, 846, 848, 849, 1080, 1082, 33, 1083, 1084, 1086] rfl
set_option maxRecDepth 20000 in
theorem lwi_wsL_law_r24 : ∀ w ∈ wsL_law_r24, w ∈ lw_tbl := lw_ps [34, 1087, 1088, 1090, 35, 1091, 1092, 1093, 1094, 1095, 1097, 36, 1098, 1099, 1101, 37, 1102, 609, 610, 611, 612, 613, 614, 616] rfl
set_option maxRecDepth 20000 in
theorem lwi_wsL_law_r25 : ∀ w ∈ wsL_law_r25, w ∈ lw_tbl := lw_ps [8, 617, 199, 213, 216, 618, 619, 620, 622, 9, 623, 194, 176, 196, 624, 1103, 1104, 1105, 1106, 1107, 1109, 38, 1110, 625] rfl
set_option maxRecDepth 20000 in
theorem lwi_wsL_law_r26 : ∀ w ∈ wsL_law_r26, w ∈ lw_tbl := lw_ps [626, 627, 628, 1111, 1112, 1113, 1114, 1115, 1117, 39, 1118, 629, 630, 631, 632, 633, 634, 635, 636, 260, 202, 638, 637, 639] rfl
set_option maxRecDepth 20000 in
theorem lwi_wsL_law_r27 : ∀ w ∈ wsL_law_r27, w ∈ lw_tbl := lw_ps [640, 642, 10, 643, 211, 215, 644, 646, 11, 647, 261, 262, 263, 648, 649, 650, 651, 1119, 1120, 1121, 1122, 1123, 1124, 1126] rfl
set_option maxRecDepth 20000 in
theorem lwi_wsL_law_r28 : ∀ w ∈ wsL_law_r28, w ∈ lw_tbl := lw_ps [40, 1127, 652, 653, 654, 655, 656, 657, 69, 658, 659, 660, 661, 1128, 1129, 1130, 1131, 1132, 1134, 41, 1135, 1136, 1137, 1138] rfl
set_option maxRecDepth 20000 in
theorem lwi_wsL_law_r29 : ∀ w ∈ wsL_law_r29, w ∈ lw_tbl := lw_ps [662, 663, 664, 665, 108, 109, 1139, 1140, 1141, 1142, 1143, 1145, 42, 1146, 666, 667, 668, 669, 339, 1147, 1148, 1149, 1150, 1151] rfl
set_option maxRecDepth 20000 in
theorem lwi_wsL_law_r30 : ∀ w ∈ wsL_law_r30, w ∈ lw_tbl := lw_ps [853, 670, 671, 672, 673, 1152, 1153, 1154, 1155, 674, 675, 676, 677, 678, 680, 12, 681, 205, 1156, 1157, 1158, 1159, 1160, 1162] rfl
set_option maxRecDepth 20000 in
theorem lwi_wsL_law_r31 : ∀ w ∈ wsL_law_r31, w ∈ lw_tbl := lw_ps [43, 1163, 1164, 1166, 44, 1167, 682, 683, 684, 685, 1168, 1169, 1170, 1171, 1172, 1174, 45, 1175, 686, 687, 688, 689, 690, 691] rfl
set_option maxRecDepth 20000 in
theorem lwi_wsL_law_r32 : ∀ w ∈ wsL_law_r32, w ∈ lw_tbl := lw_ps [693, 13, 694, 695, 1176, 1177, 1178, 1179, 1180, 1182, 46, 1183, 1184, 1186, 47, 1187, 696, 697, 698, 699, 705, 281, 283, 700] rfl
set_option maxRecDepth 20000 in
theorem lwi_wsL_law_r33 : ∀ w ∈ wsL_law_r33, w ∈ lw_tbl := lw_ps [701, 702, 703, 105, 704, 706, 707, 708, 709, 280, 282, 197, 200, 188, 102, 714, 207, 710, 712, 14, 713, 715, 716, 718] rfl
set_option maxRecDepth 20000 in
theorem lwi_wsL_law_r34 : ∀ w ∈ wsL_law_r34, w ∈ lw_tbl := lw_ps [15, 719, 720, 721, 723, 16, 724, 725, 726, 727, 729, 17, 730, 731, 1188, 1189, 1190, 1191, 1196, 1192, 1194, 48, 1195, 1197] rfl
set_option maxRecDepth 20000 in
theorem lwi_wsL_law_r35 : ∀ w ∈ wsL_law_r35, w ∈ lw_tbl := lw_ps [1199, 49, 1200, 1201, 1203, 50, 1204, 1205, 1206, 1207, 1208, 1209, 1210, 1211, 732, 733, 734, 735, 110, 111, 299, 736, 737, 738] rfl
set_option maxRecDepth 20000 in
theorem lwi_wsL_law_r36 : ∀ w ∈ wsL_law_r36, w ∈ lw_tbl := lw_ps [739, 740, 298, 1212, 1213, 1214, 1215, 1216, 1217, 1219, 51, 1220, 856, 1221, 1223, 52, 1224, 1225, 741, 742, 743, 744, 745, 746] rfl
set_option maxRecDepth 20000 in
theorem lwi_wsL_law_r37 : ∀ w ∈ wsL_law_r37, w ∈ lw_tbl := lw_ps [747, 748, 749, 750, 751, 314, 752, 753, 918, 919, 920, 921, 754, 755, 756, 757, 934, 935, 936, 937, 758, 759, 760, 761] rfl
set_option maxRecDepth 20000 in
theorem lwi_wsL_law_r38 : ∀ w ∈ wsL_law_r38, w ∈ lw_tbl := lw_ps [762, 764, 18, 765, 315, 766, 767, 768, 769, 770, 771, 772, 773, 938, 939, 940, 941, 942, 944, 21, 945, 946, 947, 948] rfl
set_option maxRecDepth 20000 in
theorem lwi_wsL_law_r39 : ∀ w ∈ wsL_law_r39, w ∈ lw_tbl := lw_ps [774, 775, 776, 777, 778, 949, 950, 951, 952, 953, 779, 780, 781, 782, 311, 783, 785, 784, 70, 954, 955, 956, 957, 786] rfl
set_option maxRecDepth 20000 in
theorem lwi_wsL_law_r40 : ∀ w ∈ wsL_law_r40, w ∈ lw_tbl := lw_ps [787, 788, 789, 790, 1226, 1227, 1228, 1229, 1230, 1231, 1232, 791, 792, 793, 794, 94, 95, 96, 97, 98, 99, 1233, 1234, 1235] rfl
set_option maxRecDepth 20000 in
theorem lwi_wsL_law_r41 : ∀ w ∈ wsL_law_r41, w ∈ lw_tbl := lw_ps [1236, 795, 796, 797, 798, 799, 800, 801, 802, 803, 804, 805, 806, 807, 809, 19, 810, 811, 812, 813, 814, 815, 816, 817] rfl
set_option maxRecDepth 20000 in
theorem lwi_wsL_law_r42 : ∀ w ∈ wsL_law_r42, w ∈ lw_tbl := lw_ps [818, 819, 1237, 1238, 1239, 1240, 1241, 1242, 1243, 1244, 1246, 53, 1247, 1248, 1249] rfl
set_option maxRecDepth 20000 in
theorem lwi_wsX110 : ∀ w ∈ wsX110, w ∈ lw_tbl := lw_ps [342, 344, 346, 348, 350, 352, 354, 356, 358, 360, 362, 364, 366, 368, 370] rfl
set_option maxRecDepth 20000 in
theorem lwi_wsX120 : ∀ w ∈ wsX120, w ∈ lw_tbl := lw_ps [857, 859, 861, 863, 865, 867, 869, 871, 873, 875, 877, 879, 881, 883, 885, 887, 889, 891, 893, 895, 897, 899, 901, 903, 905, 907, 909, 911, 913, 915] rfl
set_option maxRecDepth 20000 in
theorem lwi_wsX40 : ∀ w ∈ wsX40, w ∈ lw_tbl := lw_ps [112, 114, 116, 118] rfl
set_option maxRecDepth 20000 in
theorem lwi_wsX70 : ∀ w ∈ wsX70, w ∈ lw_tbl := lw_ps [128, 129, 130, 131] rfl
set_option maxRecDepth 20000 in
theorem lwi_wsX20 : ∀ w ∈ wsX20, w ∈ lw_tbl := lw_ps [139, 140, 141, 142] rfl
set_option maxRecDepth 20000 in
theorem lwi_wsX10 : ∀ w ∈ wsX10, w ∈ lw_tbl := lw_ps [153, 155] rfl
set_option maxRecDepth 20000 in
theorem lwi_wsX100 : ∀ w ∈ wsX100, w ∈ lw_tbl := lw_ps [219, 221, 223, 225, 227, 229, 231, 233, 235, 237, 239, 241, 243, 245, 247, 249, 251] rfl
set_option maxRecDepth 20000 in
theorem lwi_wsX00 : ∀ w ∈ wsX00, w ∈ lw_tbl := lw_ps [264, 266, 268, 270] rfl
set_option maxRecDepth 20000 in
theorem lwi_wsX50 : ∀ w ∈ wsX50, w ∈ lw_tbl := lw_ps [284, 286, 288] rfl
set_option maxRecDepth 20000 in
theorem lwi_wsX60 : ∀ w ∈ wsX60, w ∈ lw_tbl := lw_ps [300] rfl
set_option maxRecDepth 20000 in
theorem lwi_wsX80 : ∀ w ∈ wsX80, w ∈ lw_tbl := lw_ps [318, 320, 322, 324] rfl
set_option maxRecDepth 20000 in
theorem lwi_wsX30 : ∀ w ∈ wsX30, w ∈ lw_tbl := lw_ps [178, 180, 182, 184] rfl
theorem wsL_law_in : ∀ w ∈ wsL_law, w ∈ lw_tbl := by
  intro w h
  rcases List.mem_append.mp h with h | h
  case inr => exact absurd h List.not_mem_nil
  rcases List.mem_append.mp h with h | h
  case inr => exact lwi_wsX30 w h
  rcases List.mem_append.mp h with h | h
  case inr => exact lwi_wsX80 w h
  rcases List.mem_append.mp h with h | h
  case inr => exact lwi_wsX60 w h
  rcases List.mem_append.mp h with h | h
  case inr => exact lwi_wsX50 w h
  rcases List.mem_append.mp h with h | h
  case inr => exact lwi_wsX00 w h
  rcases List.mem_append.mp h with h | h
  case inr => exact lwi_wsX100 w h
  rcases List.mem_append.mp h with h | h
  case inr => exact lwi_wsX10 w h
  rcases List.mem_append.mp h with h | h
  case inr => exact lwi_wsX20 w h
  rcases List.mem_append.mp h with h | h
  case inr => exact lwi_wsX70 w h
  rcases List.mem_append.mp h with h | h
  case inr => exact lwi_wsX40 w h
  rcases List.mem_append.mp h with h | h
  case inr => exact lwi_wsX120 w h
  rcases List.mem_append.mp h with h | h
  case inr => exact lwi_wsX110 w h
  rcases List.mem_append.mp h with h | h
  case inl => exact lwi_wsL_law_r1 w h
  rcases List.mem_append.mp h with h | h
  case inl => exact lwi_wsL_law_r2 w h
  rcases List.mem_append.mp h with h | h
  case inl => exact lwi_wsL_law_r3 w h
  rcases List.mem_append.mp h with h | h
  case inl => exact lwi_wsL_law_r4 w h
  rcases List.mem_append.mp h with h | h
  case inl => exact lwi_wsL_law_r5 w h
  rcases List.mem_append.mp h with h | h
  case inl => exact lwi_wsL_law_r6 w h
  rcases List.mem_append.mp h with h | h
  case inl => exact lwi_wsL_law_r7 w h
  rcases List.mem_append.mp h with h | h
  case inl => exact lwi_wsL_law_r8 w h
  rcases List.mem_append.mp h with h | h
  case inl => exact lwi_wsL_law_r9 w h
  rcases List.mem_append.mp h with h | h
  case inl => exact lwi_wsL_law_r10 w h
  rcases List.mem_append.mp h with h | h
  case inl => exact lwi_wsL_law_r11 w h
  rcases List.mem_append.mp h with h | h
  case inl => exact lwi_wsL_law_r12 w h
  rcases List.mem_append.mp h with h | h
  case inl => exact lwi_wsL_law_r13 w h
  rcases List.mem_append.mp h with h | h
  case inl => exact lwi_wsL_law_r14 w h
  rcases List.mem_append.mp h with h | h
  case inl => exact lwi_wsL_law_r15 w h
  rcases List.mem_append.mp h with h | h
  case inl => exact lwi_wsL_law_r16 w h
  rcases List.mem_append.mp h with h | h
  case inl => exact lwi_wsL_law_r17 w h
  rcases List.mem_append.mp h with h | h
  case inl => exact lwi_wsL_law_r18 w h
  rcases List.mem_append.mp h with h | h
  case inl => exact lwi_wsL_law_r19 w h
  rcases List.mem_append.mp h with h | h
  case inl => exact lwi_wsL_law_r20 w h
  rcases List.mem_append.mp h with h | h
  case inl => exact lwi_wsL_law_r21 w h
  rcases List.mem_append.mp h with h | h
  case inl => exact lwi_wsL_law_r22 w h
  rcases List.mem_append.mp h with h | h
  case inl => exact lwi_wsL_law_r23 w h
  rcases List.mem_append.mp h with h | h
  case inl => exact lwi_wsL_law_r24 w h
  rcases List.mem_append.mp h with h | h
  case inl => exact lwi_wsL_law_r25 w h
  rcases List.mem_append.mp h with h | h
  case inl => exact lwi_wsL_law_r26 w h
  rcases List.mem_append.mp h with h | h
  case inl => exact lwi_wsL_law_r27 w h
  rcases List.mem_append.mp h with h | h
  case inl => exact lwi_wsL_law_r28 w h
  rcases List.mem_append.mp h with h | h
  case inl => exact lwi_wsL_law_r29 w h
  rcases List.mem_append.mp h with h | h
  case inl => exact lwi_wsL_law_r30 w h
  rcases List.mem_append.mp h with h | h
  case inl => exact lwi_wsL_law_r31 w h
  rcases List.mem_append.mp h with h | h
  case inl => exact lwi_wsL_law_r32 w h
  rcases List.mem_append.mp h with h | h
  case inl => exact lwi_wsL_law_r33 w h
  rcases List.mem_append.mp h with h | h
  case inl => exact lwi_wsL_law_r34 w h
  rcases List.mem_append.mp h with h | h
  case inl => exact lwi_wsL_law_r35 w h
  rcases List.mem_append.mp h with h | h
  case inl => exact lwi_wsL_law_r36 w h
  rcases List.mem_append.mp h with h | h
  case inl => exact lwi_wsL_law_r37 w h
  rcases List.mem_append.mp h with h | h
  case inl => exact lwi_wsL_law_r38 w h
  rcases List.mem_append.mp h with h | h
  case inl => exact lwi_wsL_law_r39 w h
  rcases List.mem_append.mp h with h | h
  case inl => exact lwi_wsL_law_r40 w h
  rcases List.mem_append.mp h with h | h
  case inl => exact lwi_wsL_law_r41 w h
  exact lwi_wsL_law_r42 w h
