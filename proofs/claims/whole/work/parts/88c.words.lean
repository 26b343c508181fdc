/-! the words of the law stand in the tables -/
theorem mem_by {l t : List Cond} (ks : List Nat) (h : ks.map (fun i => t[i]?) = l.map some) : ∀ w ∈ l, w ∈ t := by
  intro w hw
  have h1 : some w ∈ l.map some := List.mem_map_of_mem hw
  rw [← h] at h1
  obtain ⟨i, -, e⟩ := List.mem_map.mp h1
  exact List.mem_of_getElem? e
theorem app_in {a b t : List Cond} (h1 : ∀ w ∈ a, w ∈ t) (h2 : ∀ w ∈ b, w ∈ t) : ∀ w ∈ a ++ b, w ∈ t := fun w h => (List.mem_append.mp h).elim (h1 w) (h2 w)
theorem lwi_1 : ∀ w ∈ wsL_law0_r1, w ∈ lw_tbl := mem_by [52, 53, 37, 924, 925, 43, 1228, 1227, 54, 55, 56, 57, 58, 59, 60, 61, 38, 198, 74, 75, 39, 199, 142, 143] (by decide +kernel)
theorem lwi_2 : ∀ w ∈ wsL_law0_r2, w ∈ lw_tbl := mem_by [40, 200, 167, 168, 41, 201, 179, 180, 42, 202, 203, 220, 204, 63, 64, 65, 73, 66, 76, 77, 78, 79, 141, 89] (by decide +kernel)
theorem lwi_3 : ∀ w ∈ wsL_law0_r3, w ∈ lw_tbl := mem_by [90, 91, 92, 93, 94, 95, 96, 97, 98, 80, 81, 82, 83, 99, 100, 101, 102, 103, 104, 105, 84, 85, 86, 145] (by decide +kernel)
theorem lwi_4 : ∀ w ∈ wsL_law0_r4, w ∈ lw_tbl := mem_by [146, 147, 148, 149, 150, 170, 171, 172, 173, 175, 174, 181, 182, 183, 184, 185, 188, 187, 926, 927, 928, 929, 936, 937] (by decide +kernel)
theorem lwi_5 : ∀ w ∈ wsL_law0_r5, w ∈ lw_tbl := mem_by [938, 940, 941, 942, 945, 946, 947, 930, 931, 932, 933, 934, 935, 328, 329, 36, 330, 331, 332, 333, 334, 335, 336, 412] (by decide +kernel)
theorem lwi_6 : ∀ w ∈ wsL_law0_r6, w ∈ lw_tbl := mem_by [48, 337, 338, 339, 340, 47, 408, 409, 410, 411, 67, 428, 429, 430, 431, 432, 225, 226, 227, 228, 1002, 1003, 1004, 1005] (by decide +kernel)
theorem lwi_7 : ∀ w ∈ wsL_law0_r7, w ∈ lw_tbl := mem_by [944, 943, 987, 989, 16, 990, 979, 980, 981, 982, 221, 222, 223, 224, 229, 230, 231, 232, 1006, 1007, 1008, 1009, 233, 234] (by decide +kernel)
theorem lwi_8 : ∀ w ∈ wsL_law0_r8, w ∈ lw_tbl := mem_by [235, 236, 237, 238, 239, 240, 241, 242, 243, 244, 245, 246, 247, 249, 0, 250, 251, 252, 253, 254, 255, 256, 1010, 1011] (by decide +kernel)
theorem lwi_9 : ∀ w ∈ wsL_law0_r9, w ∈ lw_tbl := mem_by [1012, 1013, 949, 1014, 1016, 17, 1017, 948, 1018, 1020, 18, 1021, 1022, 1024, 19, 1025, 1026, 1028, 20, 1029, 433, 434, 435, 436] (by decide +kernel)
theorem lwi_10 : ∀ w ∈ wsL_law0_r10, w ∈ lw_tbl := mem_by [437, 438, 439, 441, 442, 443, 444, 445, 189, 446, 447, 448, 449, 450, 452, 5, 453, 454, 456, 6, 457, 458, 459, 460] (by decide +kernel)
theorem lwi_11 : ∀ w ∈ wsL_law0_r11, w ∈ lw_tbl := mem_by [461, 462, 463, 464, 465, 466, 467, 468, 469, 470, 471, 472, 473, 474, 475, 476, 477, 478, 479, 480, 481, 482, 483, 484] (by decide +kernel)
theorem lwi_12 : ∀ w ∈ wsL_law0_r12, w ∈ lw_tbl := mem_by [485, 288, 289, 290, 486, 487, 488, 489, 490, 491, 492, 493, 494, 495, 496, 497, 498, 274, 275, 276, 499, 500, 501, 502] (by decide +kernel)
theorem lwi_13 : ∀ w ∈ wsL_law0_r13, w ∈ lw_tbl := mem_by [326, 262, 263, 264, 265, 266, 267, 268, 503, 270, 271, 272, 151, 152, 153, 273, 277, 278, 279, 280, 281, 282, 283, 284] (by decide +kernel)
theorem lwi_14 : ∀ w ∈ wsL_law0_r14, w ∈ lw_tbl := mem_by [285, 286, 287, 291, 292, 49, 293, 294, 295, 296, 297, 299, 1, 300, 305, 306, 50, 307, 301, 303, 2, 304, 308, 310] (by decide +kernel)
theorem lwi_15 : ∀ w ∈ wsL_law0_r15, w ∈ lw_tbl := mem_by [3, 311, 504, 506, 7, 507, 508, 509, 510, 511, 512, 514, 8, 515, 516, 517, 518, 519, 1030, 1031, 1032, 1033, 939, 1034] (by decide +kernel)
theorem lwi_16 : ∀ w ∈ wsL_law0_r16, w ∈ lw_tbl := mem_by [1036, 21, 1037, 1038, 1040, 22, 1041, 1042, 1043, 1044, 1045, 1046, 1047, 1048, 1049, 1050, 1051, 1053, 23, 1054, 1055, 1057, 24, 1058] (by decide +kernel)
theorem lwi_17 : ∀ w ∈ wsL_law0_r17, w ∈ lw_tbl := mem_by [1059, 1060, 1061, 1062, 1064, 25, 1065, 1066, 1067, 1068, 1069, 1070, 1071, 1072, 1073, 1074, 1075, 1076, 1077, 1078, 1079, 1080, 1081, 1082] (by decide +kernel)
theorem lwi_18 : ∀ w ∈ wsL_law0_r18, w ∈ lw_tbl := mem_by [1083, 1084, 1085, 1086, 520, 521, 522, 523, 524, 525, 526, 316, 527, 528, 529, 530, 531, 532, 533, 534, 535, 536, 537, 538] (by decide +kernel)
theorem lwi_19 : ∀ w ∈ wsL_law0_r19, w ∈ lw_tbl := mem_by [539, 540, 541, 542, 543, 544, 545, 546, 547, 548, 549, 550, 551, 1087, 1088, 1089, 1090, 553, 554, 555, 556, 557, 558, 559] (by decide +kernel)
theorem lwi_20 : ∀ w ∈ wsL_law0_r20, w ∈ lw_tbl := mem_by [560, 561, 563, 9, 564, 566, 51, 565, 582, 583, 584, 585, 586, 587, 588, 589, 261, 269, 590, 591, 592, 593, 594, 595] (by decide +kernel)
theorem lwi_21 : ∀ w ∈ wsL_law0_r21, w ∈ lw_tbl := mem_by [596, 597, 598, 1091, 1092, 1093, 1094, 1095, 1097, 26, 1098, 1099, 1101, 27, 1102, 600, 601, 602, 603, 604, 605, 606, 607, 609] (by decide +kernel)
theorem lwi_22 : ∀ w ∈ wsL_law0_r22, w ∈ lw_tbl := mem_by [10, 610, 611, 613, 614, 615, 616, 617, 618, 619, 620, 621, 622, 623, 624, 625, 626, 627, 628, 629, 630, 631, 1103, 1104] (by decide +kernel)
theorem lwi_23 : ∀ w ∈ wsL_law0_r23, w ∈ lw_tbl := mem_by [1105, 1106, 1107, 1109, 28, 1110, 633, 634, 635, 636, 637, 638, 639, 640, 641, 642, 643, 644, 645, 646, 647, 648, 1111, 1112] (by decide +kernel)
theorem lwi_24 : ∀ w ∈ wsL_law0_r24, w ∈ lw_tbl := mem_by [1113, 1114, 650, 651, 652, 653, 654, 655, 656, 657, 658, 659, 660, 1115, 1116, 1117, 1118, 661, 662, 663, 664, 665, 666, 667] (by decide +kernel)
theorem lwi_25 : ∀ w ∈ wsL_law0_r25, w ∈ lw_tbl := mem_by [669, 670, 671, 672, 673, 675, 11, 676, 1119, 1120, 1121, 1122, 677, 678, 679, 680, 681, 682, 683, 684, 686, 687, 688, 689] (by decide +kernel)
theorem lwi_26 : ∀ w ∈ wsL_law0_r26, w ∈ lw_tbl := mem_by [190, 690, 691, 692, 693, 694, 695, 696, 697, 1123, 1124, 1125, 1126, 1127, 1129, 29, 1130, 991, 992, 993, 698, 699, 700, 701] (by decide +kernel)
theorem lwi_27 : ∀ w ∈ wsL_law0_r27, w ∈ lw_tbl := mem_by [702, 703, 704, 705, 707, 1131, 1132, 1133, 1134, 708, 709, 710, 711, 712, 713, 714, 715, 1135, 1136, 1137, 1138, 716, 717, 718] (by decide +kernel)
theorem lwi_28 : ∀ w ∈ wsL_law0_r28, w ∈ lw_tbl := mem_by [719, 720, 721, 722, 723, 1139, 1140, 1141, 1142, 724, 725, 726, 727, 728, 729, 730, 731, 1143, 1144, 1145, 1146, 732, 733, 734] (by decide +kernel)
theorem lwi_29 : ∀ w ∈ wsL_law0_r29, w ∈ lw_tbl := mem_by [735, 736, 737, 738, 741, 742, 743, 744, 1147, 1148, 1149, 1150, 1151, 1153, 30, 1154, 745, 746, 747, 748, 749, 750, 751, 752] (by decide +kernel)
theorem lwi_30 : ∀ w ∈ wsL_law0_r30, w ∈ lw_tbl := mem_by [754, 12, 755, 756, 1155, 1156, 1157, 1158, 757, 758, 759, 760, 761, 762, 763, 764, 1159, 1160, 1161, 1162, 765, 766, 767, 768] (by decide +kernel)
theorem lwi_31 : ∀ w ∈ wsL_law0_r31, w ∈ lw_tbl := mem_by [769, 770, 771, 772, 773, 774, 775, 1163, 1164, 1165, 1166, 1167, 1169, 31, 1170, 777, 778, 779, 780, 781, 782, 783, 784, 786] (by decide +kernel)
theorem lwi_32 : ∀ w ∈ wsL_law0_r32, w ∈ lw_tbl := mem_by [788, 789, 790, 791, 1171, 1172, 1173, 1174, 1175, 1176, 1177, 792, 793, 794, 795, 796, 797, 798, 799, 800, 801, 802, 804, 805] (by decide +kernel)
theorem lwi_33 : ∀ w ∈ wsL_law0_r33, w ∈ lw_tbl := mem_by [806, 807, 808, 809, 810, 811, 983, 984, 985, 986, 257, 258, 259, 260, 1178, 1179, 1180, 1181, 812, 813, 814, 815, 816, 817] (by decide +kernel)
theorem lwi_34 : ∀ w ∈ wsL_law0_r34, w ∈ lw_tbl := mem_by [818, 819, 323, 324, 325, 1182, 1183, 1184, 1185, 1186, 1188, 32, 1189, 1190, 1192, 33, 1193, 312, 313, 314, 315, 317, 318, 319] (by decide +kernel)
theorem lwi_35 : ∀ w ∈ wsL_law0_r35, w ∈ lw_tbl := mem_by [320, 321, 322, 327, 1194, 1195, 1196, 1197, 820, 821, 822, 823, 824, 825, 826, 827, 828, 829, 830, 831, 832, 833, 834, 835] (by decide +kernel)
theorem lwi_36 : ∀ w ∈ wsL_law0_r36, w ∈ lw_tbl := mem_by [836, 1198, 1199, 1200, 1201, 837, 838, 839, 840, 841, 842, 843, 844, 845, 846, 847, 848, 849, 851, 13, 852, 853, 854, 855] (by decide +kernel)
theorem lwi_37 : ∀ w ∈ wsL_law0_r37, w ∈ lw_tbl := mem_by [856, 1202, 1203, 1204, 1205, 857, 858, 859, 860, 861, 862, 863, 864, 865, 866, 867, 869, 870, 871, 872, 873, 874, 876, 14] (by decide +kernel)
theorem lwi_38 : ∀ w ∈ wsL_law0_r38, w ∈ lw_tbl := mem_by [877, 878, 879, 880, 881, 882, 883, 1206, 1207, 1208, 1209, 1210, 1211, 1212, 1213, 1215, 34, 1216, 884, 885, 886, 887, 888, 889] (by decide +kernel)
theorem lwi_39 : ∀ w ∈ wsL_law0_r39, w ∈ lw_tbl := mem_by [890, 891, 892, 893, 894, 898, 899, 895, 896, 897, 900, 902, 15, 903, 1217, 1218, 1219, 1220, 1221, 1222, 1223, 1225, 35, 1226] (by decide +kernel)
theorem lwi_40 : ∀ w ∈ wsL_law0_r40, w ∈ lw_tbl := mem_by [904, 905, 906, 907, 908, 909, 910, 911, 912, 913, 915, 994, 995, 996, 997, 916, 917, 918, 919, 920, 921, 922, 998, 999] (by decide +kernel)
theorem lwi_41 : ∀ w ∈ wsL_law0_r41, w ∈ lw_tbl := mem_by [1000, 1001] (by decide +kernel)
theorem lwi_wsX50 : ∀ w ∈ wsX50, w ∈ lw_tbl := by decide +kernel
theorem lwi_wsX60 : ∀ w ∈ wsX60, w ∈ lw_tbl := by decide +kernel
theorem lwi_wsX30 : ∀ w ∈ wsX30, w ∈ lw_tbl := by decide +kernel
theorem lwi_wsX20 : ∀ w ∈ wsX20, w ∈ lw_tbl := by decide +kernel
theorem lwi_wsX00 : ∀ w ∈ wsX00, w ∈ lw_tbl := by decide +kernel
theorem lwi_wsX40 : ∀ w ∈ wsX40, w ∈ lw_tbl := by decide +kernel
theorem lwi_wsX10 : ∀ w ∈ wsX10, w ∈ lw_tbl := by decide +kernel
theorem lwi_0 : ∀ w ∈ wsL_law0, w ∈ lw_tbl := (app_in (app_in (app_in (app_in (app_in (app_in (app_in (app_in (app_in lwi_1 (app_in lwi_2 (app_in lwi_3 (app_in lwi_4 (app_in lwi_5 (app_in lwi_6 (app_in lwi_7 (app_in lwi_8 (app_in lwi_9 (app_in lwi_10 (app_in lwi_11 (app_in lwi_12 (app_in lwi_13 (app_in lwi_14 (app_in lwi_15 (app_in lwi_16 (app_in lwi_17 (app_in lwi_18 (app_in lwi_19 (app_in lwi_20 (app_in lwi_21 (app_in lwi_22 (app_in lwi_23 (app_in lwi_24 (app_in lwi_25 (app_in lwi_26 (app_in lwi_27 (app_in lwi_28 (app_in lwi_29 (app_in lwi_30 (app_in lwi_31 (app_in lwi_32 (app_in lwi_33 (app_in lwi_34 (app_in lwi_35 (app_in lwi_36 (app_in lwi_37 (app_in lwi_38 (app_in lwi_39 (app_in lwi_40 lwi_41)))))))))))))))))))))))))))))))))))))))) lwi_wsX50) lwi_wsX60) lwi_wsX30) lwi_wsX20) lwi_wsX00) lwi_wsX40) lwi_wsX10) (fun _ h => absurd h List.not_mem_nil))
theorem lwi_x0 : ∀ w ∈ (vx_atS RX5 64 "java/lang/IllegalStateException" ["java/lang/RuntimeException", "java/lang/Exception"]).filter goodWord, w ∈ lw_tbl := by decide +kernel
theorem lwi_x1 : ∀ w ∈ (vx_atS RX5 119 "java/lang/IllegalArgumentException" ["java/lang/RuntimeException", "java/lang/Exception"]).filter goodWord, w ∈ lw_tbl := by decide +kernel
theorem lwi_x2 : ∀ w ∈ (vx_atS RX5 313 "java/lang/IndexOutOfBoundsException" ["java/lang/RuntimeException", "java/lang/Exception"]).filter goodWord, w ∈ lw_tbl := by decide +kernel
theorem lwi_all : ∀ w ∈ wsL_law, w ∈ lw_tbl := app_in (app_in (app_in lwi_0 lwi_x0) lwi_x1) lwi_x2
