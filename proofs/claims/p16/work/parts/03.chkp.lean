set_option maxRecDepth 100000 in
theorem X_PF0_w : X_PF0.map (X_pfw 0) = [136, 140, 144, 150, 168, 171, 174, 178, 182, 225, 228, 232, 237, 238, 239, 240, 241].filterMap (fun (i : Nat) => lw_tbl[i]?) := by decide +kernel
theorem X_PF0_g : X_PF0.all (fun e => !decide (e.2.2.2 = 0) || goodWord (X_pfw 0 e)) = true := by decide +kernel
theorem X_PF0_n : X_PF0.all (fun e => decide (e.2.2.2 = 0) || X_isNest (X_pfw 0 e)) = true := by decide +kernel
set_option maxRecDepth 100000 in
theorem X_PM0_w : X_PM0.map (X_pmw 0) = [130, 220, 626, 654, 661, 680, 750, 751, 755, 759, 763, 767, 1026, 1029, 1030, 1033].filterMap (fun (i : Nat) => lw_tbl[i]?) := by decide +kernel
theorem X_PM0_g : X_PM0.all (fun e => !decide (e.2.2 = 0) || goodWord (X_pmw 0 e)) = true := by decide +kernel
theorem X_PM0_n : X_PM0.all (fun e => decide (e.2.2 = 0) || X_isNest (X_pmw 0 e)) = true := by decide +kernel
set_option maxRecDepth 100000 in
theorem X_PF1_w : X_PF1.map (X_pfw 1) = [149, 155, 167, 172, 177, 181, 231, 235, 246, 322, 324, 378, 380, 381, 382, 383, 384, 385, 386].filterMap (fun (i : Nat) => lw_tbl[i]?) := by decide +kernel
theorem X_PF1_g : X_PF1.all (fun e => !decide (e.2.2.2 = 0) || goodWord (X_pfw 1 e)) = true := by decide +kernel
theorem X_PF1_n : X_PF1.all (fun e => decide (e.2.2.2 = 0) || X_isNest (X_pfw 1 e)) = true := by decide +kernel
set_option maxRecDepth 100000 in
theorem X_PM1_w : X_PM1.map (X_pmw 1) = [837, 841, 844, 848, 849, 853, 856, 860, 865, 868, 872, 881, 885, 891, 895, 896, 897, 901, 905].filterMap (fun (i : Nat) => lw_tbl[i]?) := by decide +kernel
theorem X_PM1_g : X_PM1.all (fun e => !decide (e.2.2 = 0) || goodWord (X_pmw 1 e)) = true := by decide +kernel
theorem X_PM1_n : X_PM1.all (fun e => decide (e.2.2 = 0) || X_isNest (X_pmw 1 e)) = true := by decide +kernel
set_option maxRecDepth 100000 in
theorem X_PF2_w : X_PF2.map (X_pfw 2) = [146, 153, 170, 176, 180, 234, 243, 320, 379, 410, 411, 412, 413, 414, 415, 416, 417, 418, 419, 420, 421, 422].filterMap (fun (i : Nat) => lw_tbl[i]?) := by decide +kernel
theorem X_PF2_g : X_PF2.all (fun e => !decide (e.2.2.2 = 0) || goodWord (X_pfw 2 e)) = true := by decide +kernel
theorem X_PF2_n : X_PF2.all (fun e => decide (e.2.2.2 = 0) || X_isNest (X_pfw 2 e)) = true := by decide +kernel
set_option maxRecDepth 100000 in
theorem X_PM2_w : X_PM2.map (X_pmw 2) = [925, 926, 930, 934, 938, 942, 947, 948, 952, 956, 960, 964, 965, 966, 967, 968, 972].filterMap (fun (i : Nat) => lw_tbl[i]?) := by decide +kernel
theorem X_PM2_g : X_PM2.all (fun e => !decide (e.2.2 = 0) || goodWord (X_pmw 2 e)) = true := by decide +kernel
theorem X_PM2_n : X_PM2.all (fun e => decide (e.2.2 = 0) || X_isNest (X_pmw 2 e)) = true := by decide +kernel
set_option maxRecDepth 100000 in
theorem X_PF3_w : X_PF3.map (X_pfw 3) = [114, 276, 277, 278, 279, 280, 281, 282].filterMap (fun (i : Nat) => lw_tbl[i]?) := by decide +kernel
theorem X_PF3_g : X_PF3.all (fun e => !decide (e.2.2.2 = 0) || goodWord (X_pfw 3 e)) = true := by decide +kernel
theorem X_PF3_n : X_PF3.all (fun e => decide (e.2.2.2 = 0) || X_isNest (X_pfw 3 e)) = true := by decide +kernel
set_option maxRecDepth 100000 in
theorem X_PM3_w : X_PM3.map (X_pmw 3) = [533, 537, 540, 544, 547, 551, 554, 557, 567, 573, 577, 580, 584, 596, 597].filterMap (fun (i : Nat) => lw_tbl[i]?) := by decide +kernel
theorem X_PM3_g : X_PM3.all (fun e => !decide (e.2.2 = 0) || goodWord (X_pmw 3 e)) = true := by decide +kernel
theorem X_PM3_n : X_PM3.all (fun e => decide (e.2.2 = 0) || X_isNest (X_pmw 3 e)) = true := by decide +kernel
set_option maxRecDepth 100000 in
theorem X_PF4_w : X_PF4.map (X_pfw 4) = [139, 143, 148, 154, 159, 226, 230, 236, 245, 298, 299, 300, 302].filterMap (fun (i : Nat) => lw_tbl[i]?) := by decide +kernel
theorem X_PF4_g : X_PF4.all (fun e => !decide (e.2.2.2 = 0) || goodWord (X_pfw 4 e)) = true := by decide +kernel
theorem X_PF4_n : X_PF4.all (fun e => decide (e.2.2.2 = 0) || X_isNest (X_pfw 4 e)) = true := by decide +kernel
set_option maxRecDepth 100000 in
theorem X_PM4_w : X_PM4.map (X_pmw 4) = [272, 528, 529, 587, 592, 601, 605, 609, 613, 617, 621, 622, 629, 633, 638, 642, 646, 650, 657, 663, 667, 672, 676, 685, 689, 693, 699, 703, 711, 715, 719, 727, 731, 735, 739, 742, 746].filterMap (fun (i : Nat) => lw_tbl[i]?) := by decide +kernel
theorem X_PM4_g : X_PM4.all (fun e => !decide (e.2.2 = 0) || goodWord (X_pmw 4 e)) = true := by decide +kernel
theorem X_PM4_n : X_PM4.all (fun e => decide (e.2.2 = 0) || X_isNest (X_pmw 4 e)) = true := by decide +kernel
set_option maxRecDepth 100000 in
theorem X_PF5_w : X_PF5.map (X_pfw 5) = [339, 342, 345, 348, 350, 353, 355].filterMap (fun (i : Nat) => lw_tbl[i]?) := by decide +kernel
theorem X_PF5_g : X_PF5.all (fun e => !decide (e.2.2.2 = 0) || goodWord (X_pfw 5 e)) = true := by decide +kernel
theorem X_PF5_n : X_PF5.all (fun e => decide (e.2.2.2 = 0) || X_isNest (X_pfw 5 e)) = true := by decide +kernel
set_option maxRecDepth 100000 in
theorem X_PM5_w : X_PM5.map (X_pmw 5) = [].filterMap (fun (i : Nat) => lw_tbl[i]?) := by decide +kernel
theorem X_PM5_g : X_PM5.all (fun e => !decide (e.2.2 = 0) || goodWord (X_pmw 5 e)) = true := by decide +kernel
theorem X_PM5_n : X_PM5.all (fun e => decide (e.2.2 = 0) || X_isNest (X_pmw 5 e)) = true := by decide +kernel
set_option maxRecDepth 100000 in
theorem X_PF6_w : X_PF6.map (X_pfw 6) = [113, 319, 323, 325].filterMap (fun (i : Nat) => lw_tbl[i]?) := by decide +kernel
theorem X_PF6_g : X_PF6.all (fun e => !decide (e.2.2.2 = 0) || goodWord (X_pfw 6 e)) = true := by decide +kernel
theorem X_PF6_n : X_PF6.all (fun e => decide (e.2.2.2 = 0) || X_isNest (X_pfw 6 e)) = true := by decide +kernel
set_option maxRecDepth 100000 in
theorem X_PM6_w : X_PM6.map (X_pmw 6) = [824, 825, 876].filterMap (fun (i : Nat) => lw_tbl[i]?) := by decide +kernel
theorem X_PM6_g : X_PM6.all (fun e => !decide (e.2.2 = 0) || goodWord (X_pmw 6 e)) = true := by decide +kernel
theorem X_PM6_n : X_PM6.all (fun e => decide (e.2.2 = 0) || X_isNest (X_pmw 6 e)) = true := by decide +kernel
set_option maxRecDepth 100000 in
theorem X_PF7_w : X_PF7.map (X_pfw 7) = [110, 111].filterMap (fun (i : Nat) => lw_tbl[i]?) := by decide +kernel
theorem X_PF7_g : X_PF7.all (fun e => !decide (e.2.2.2 = 0) || goodWord (X_pfw 7 e)) = true := by decide +kernel
theorem X_PF7_n : X_PF7.all (fun e => decide (e.2.2.2 = 0) || X_isNest (X_pfw 7 e)) = true := by decide +kernel
set_option maxRecDepth 100000 in
theorem X_PM7_w : X_PM7.map (X_pmw 7) = [].filterMap (fun (i : Nat) => lw_tbl[i]?) := by decide +kernel
theorem X_PM7_g : X_PM7.all (fun e => !decide (e.2.2 = 0) || goodWord (X_pmw 7 e)) = true := by decide +kernel
theorem X_PM7_n : X_PM7.all (fun e => decide (e.2.2 = 0) || X_isNest (X_pmw 7 e)) = true := by decide +kernel
set_option maxRecDepth 100000 in
theorem X_PF8_w : X_PF8.map (X_pfw 8) = [134, 137, 141, 145, 151, 156, 160, 163, 166, 169, 173, 175, 179, 183, 185].filterMap (fun (i : Nat) => lw_tbl[i]?) := by decide +kernel
theorem X_PF8_g : X_PF8.all (fun e => !decide (e.2.2.2 = 0) || goodWord (X_pfw 8 e)) = true := by decide +kernel
theorem X_PF8_n : X_PF8.all (fun e => decide (e.2.2.2 = 0) || X_isNest (X_pfw 8 e)) = true := by decide +kernel
set_option maxRecDepth 100000 in
theorem X_PM8_w : X_PM8.map (X_pmw 8) = [707, 723].filterMap (fun (i : Nat) => lw_tbl[i]?) := by decide +kernel
theorem X_PM8_g : X_PM8.all (fun e => !decide (e.2.2 = 0) || goodWord (X_pmw 8 e)) = true := by decide +kernel
theorem X_PM8_n : X_PM8.all (fun e => decide (e.2.2 = 0) || X_isNest (X_pmw 8 e)) = true := by decide +kernel
set_option maxRecDepth 100000 in
theorem X_PF9_w : X_PF9.map (X_pfw 9) = [157, 161, 164, 184, 186, 242, 340, 343, 346, 351, 456, 457, 458, 460, 462, 463, 464].filterMap (fun (i : Nat) => lw_tbl[i]?) := by decide +kernel
theorem X_PF9_g : X_PF9.all (fun e => !decide (e.2.2.2 = 0) || goodWord (X_pfw 9 e)) = true := by decide +kernel
theorem X_PF9_n : X_PF9.all (fun e => decide (e.2.2.2 = 0) || X_isNest (X_pfw 9 e)) = true := by decide +kernel
set_option maxRecDepth 100000 in
theorem X_PM9_w : X_PM9.map (X_pmw 9) = [989, 990, 994, 995, 999, 1003, 1007, 1011].filterMap (fun (i : Nat) => lw_tbl[i]?) := by decide +kernel
theorem X_PM9_g : X_PM9.all (fun e => !decide (e.2.2 = 0) || goodWord (X_pmw 9 e)) = true := by decide +kernel
theorem X_PM9_n : X_PM9.all (fun e => decide (e.2.2 = 0) || X_isNest (X_pmw 9 e)) = true := by decide +kernel
set_option maxRecDepth 100000 in
theorem X_PF10_w : X_PF10.map (X_pfw 10) = [112, 135, 138, 142, 147, 152, 158, 162, 165, 227, 229, 233, 244, 301, 303, 321, 341, 344, 347, 349, 352, 354, 459, 461, 480, 481, 482, 483, 484, 485, 486, 487, 488].filterMap (fun (i : Nat) => lw_tbl[i]?) := by decide +kernel
theorem X_PF10_g : X_PF10.all (fun e => !decide (e.2.2.2 = 0) || goodWord (X_pfw 10 e)) = true := by decide +kernel
theorem X_PF10_n : X_PF10.all (fun e => decide (e.2.2.2 = 0) || X_isNest (X_pfw 10 e)) = true := by decide +kernel
set_option maxRecDepth 100000 in
theorem X_PM10_w : X_PM10.map (X_pmw 10) = [106, 123, 266, 315, 335, 373, 406, 452, 512, 524, 768, 772, 776, 780, 796, 800, 805, 809, 814, 815, 820, 833, 909, 921, 985, 1022].filterMap (fun (i : Nat) => lw_tbl[i]?) := by decide +kernel
theorem X_PM10_g : X_PM10.all (fun e => !decide (e.2.2 = 0) || goodWord (X_pmw 10 e)) = true := by decide +kernel
theorem X_PM10_n : X_PM10.all (fun e => decide (e.2.2 = 0) || X_isNest (X_pmw 10 e)) = true := by decide +kernel
set_option maxRecDepth 100000 in
theorem X_PF11_w : X_PF11.map (X_pfw 11) = [1045, 1046, 1047, 1048, 1049, 1050, 1051, 1052, 1053, 1054, 1055, 1056, 1057, 1058, 1059, 1060, 1061, 1062, 1063, 1064, 1065, 1066, 1067, 1068, 1069, 1070, 1071, 1072, 1073, 1074, 1075, 1076, 1077, 1078, 1079, 1080, 1081, 1082, 1083, 1084, 1085, 1086, 1087, 1088, 1089, 1090, 1091, 1092, 1093, 1094, 1095, 1096, 1097, 1098, 1099, 1100, 1101, 1102, 1103, 1104, 1105, 1106, 1107, 1108, 1109, 1110, 1111, 1112, 1113, 1114, 1115, 1116].filterMap (fun (i : Nat) => lw_tbl[i]?) := by decide +kernel
theorem X_PF11_g : X_PF11.all (fun e => !decide (e.2.2.2 = 0) || goodWord (X_pfw 11 e)) = true := by decide +kernel
theorem X_PF11_n : X_PF11.all (fun e => decide (e.2.2.2 = 0) || X_isNest (X_pfw 11 e)) = true := by decide +kernel
set_option maxRecDepth 100000 in
theorem X_PM11_w : X_PM11.map (X_pmw 11) = [1267, 1271, 1275, 1278, 1281, 1292, 1296, 1299, 1303, 1307, 1311, 1315, 1319, 1323, 1327, 1331, 1335, 1339, 1343, 1347, 1351, 1355, 1359, 1363, 1367, 1383, 1395, 1403, 1407, 1410, 1414, 1418, 1424, 1428, 1432, 1436, 1440, 1444, 1452, 1465, 1469, 1473, 1477, 1493, 1497, 1501, 1505, 1509, 1521].filterMap (fun (i : Nat) => lw_tbl[i]?) := by decide +kernel
theorem X_PM11_g : X_PM11.all (fun e => !decide (e.2.2 = 0) || goodWord (X_pmw 11 e)) = true := by decide +kernel
theorem X_PM11_n : X_PM11.all (fun e => decide (e.2.2 = 0) || X_isNest (X_pmw 11 e)) = true := by decide +kernel
set_option maxRecDepth 100000 in
theorem X_PF12_w : X_PF12.map (X_pfw 12) = [].filterMap (fun (i : Nat) => lw_tbl[i]?) := by decide +kernel
theorem X_PF12_g : X_PF12.all (fun e => !decide (e.2.2.2 = 0) || goodWord (X_pfw 12 e)) = true := by decide +kernel
theorem X_PF12_n : X_PF12.all (fun e => decide (e.2.2.2 = 0) || X_isNest (X_pfw 12 e)) = true := by decide +kernel
set_option maxRecDepth 100000 in
theorem X_PM12_w : X_PM12.map (X_pmw 12) = [98, 508, 516, 520, 784, 788, 792, 801, 810, 816, 829, 913, 917, 973, 977, 981, 1014, 1018, 1039, 1263, 1371, 1375, 1379, 1387, 1391, 1399, 1448, 1457, 1461, 1481, 1485, 1489, 1513, 1517, 1525, 1529].filterMap (fun (i : Nat) => lw_tbl[i]?) := by decide +kernel
theorem X_PM12_g : X_PM12.all (fun e => !decide (e.2.2 = 0) || goodWord (X_pmw 12 e)) = true := by decide +kernel
theorem X_PM12_n : X_PM12.all (fun e => decide (e.2.2 = 0) || X_isNest (X_pmw 12 e)) = true := by decide +kernel
