set_option maxRecDepth 100000 in
theorem X_PF0_w : X_PF0.map (X_pfw 0) = [88, 92, 96, 102, 117, 120, 124, 128, 169, 172, 176, 181, 182, 183, 184, 185].filterMap (fun (i : Nat) => lw_tbl[i]?) := by decide +kernel
theorem X_PF0_g : X_PF0.all (fun e => !decide (e.2.2.2 = 0) || goodWord (X_pfw 0 e)) = true := by decide +kernel
theorem X_PF0_n : X_PF0.all (fun e => decide (e.2.2.2 = 0) || X_isNest (X_pfw 0 e)) = true := by decide +kernel
set_option maxRecDepth 100000 in
theorem X_PM0_w : X_PM0.map (X_pmw 0) = [82, 164, 549, 577, 584, 603, 673, 674, 678, 682, 686, 690].filterMap (fun (i : Nat) => lw_tbl[i]?) := by decide +kernel
theorem X_PM0_g : X_PM0.all (fun e => !decide (e.2.2 = 0) || goodWord (X_pmw 0 e)) = true := by decide +kernel
theorem X_PM0_n : X_PM0.all (fun e => decide (e.2.2 = 0) || X_isNest (X_pmw 0 e)) = true := by decide +kernel
set_option maxRecDepth 100000 in
theorem X_PF1_w : X_PF1.map (X_pfw 1) = [101, 107, 114, 118, 123, 127, 175, 179, 189, 263, 265, 315, 317, 318, 319, 320, 321, 322, 323].filterMap (fun (i : Nat) => lw_tbl[i]?) := by decide +kernel
theorem X_PF1_g : X_PF1.all (fun e => !decide (e.2.2.2 = 0) || goodWord (X_pfw 1 e)) = true := by decide +kernel
theorem X_PF1_n : X_PF1.all (fun e => decide (e.2.2.2 = 0) || X_isNest (X_pfw 1 e)) = true := by decide +kernel
set_option maxRecDepth 100000 in
theorem X_PM1_w : X_PM1.map (X_pmw 1) = [728, 732, 735, 739, 740, 744, 747, 751, 756, 759, 763, 772, 776, 782, 786, 787, 788, 792, 796].filterMap (fun (i : Nat) => lw_tbl[i]?) := by decide +kernel
theorem X_PM1_g : X_PM1.all (fun e => !decide (e.2.2 = 0) || goodWord (X_pmw 1 e)) = true := by decide +kernel
theorem X_PM1_n : X_PM1.all (fun e => decide (e.2.2 = 0) || X_isNest (X_pmw 1 e)) = true := by decide +kernel
set_option maxRecDepth 100000 in
theorem X_PF2_w : X_PF2.map (X_pfw 2) = [98, 105, 116, 122, 126, 178, 186, 261, 316, 347, 348, 349, 350, 351, 352, 353, 354, 355, 356, 357, 358, 359].filterMap (fun (i : Nat) => lw_tbl[i]?) := by decide +kernel
theorem X_PF2_g : X_PF2.all (fun e => !decide (e.2.2.2 = 0) || goodWord (X_pfw 2 e)) = true := by decide +kernel
theorem X_PF2_n : X_PF2.all (fun e => decide (e.2.2.2 = 0) || X_isNest (X_pfw 2 e)) = true := by decide +kernel
set_option maxRecDepth 100000 in
theorem X_PM2_w : X_PM2.map (X_pmw 2) = [816, 817, 821, 825, 829, 833, 838, 839, 843, 847, 851, 855, 856, 857, 858, 859, 863].filterMap (fun (i : Nat) => lw_tbl[i]?) := by decide +kernel
theorem X_PM2_g : X_PM2.all (fun e => !decide (e.2.2 = 0) || goodWord (X_pmw 2 e)) = true := by decide +kernel
theorem X_PM2_n : X_PM2.all (fun e => decide (e.2.2 = 0) || X_isNest (X_pmw 2 e)) = true := by decide +kernel
set_option maxRecDepth 100000 in
theorem X_PF3_w : X_PF3.map (X_pfw 3) = [66, 219, 220, 221, 222, 223, 224, 225].filterMap (fun (i : Nat) => lw_tbl[i]?) := by decide +kernel
theorem X_PF3_g : X_PF3.all (fun e => !decide (e.2.2.2 = 0) || goodWord (X_pfw 3 e)) = true := by decide +kernel
theorem X_PF3_n : X_PF3.all (fun e => decide (e.2.2.2 = 0) || X_isNest (X_pfw 3 e)) = true := by decide +kernel
set_option maxRecDepth 100000 in
theorem X_PM3_w : X_PM3.map (X_pmw 3) = [456, 460, 463, 467, 470, 474, 477, 480, 490, 496, 500, 503, 507, 519, 520].filterMap (fun (i : Nat) => lw_tbl[i]?) := by decide +kernel
theorem X_PM3_g : X_PM3.all (fun e => !decide (e.2.2 = 0) || goodWord (X_pmw 3 e)) = true := by decide +kernel
theorem X_PM3_n : X_PM3.all (fun e => decide (e.2.2 = 0) || X_isNest (X_pmw 3 e)) = true := by decide +kernel
set_option maxRecDepth 100000 in
theorem X_PF4_w : X_PF4.map (X_pfw 4) = [91, 95, 100, 106, 110, 170, 174, 180, 188, 241, 242, 243, 244].filterMap (fun (i : Nat) => lw_tbl[i]?) := by decide +kernel
theorem X_PF4_g : X_PF4.all (fun e => !decide (e.2.2.2 = 0) || goodWord (X_pfw 4 e)) = true := by decide +kernel
theorem X_PF4_n : X_PF4.all (fun e => decide (e.2.2.2 = 0) || X_isNest (X_pfw 4 e)) = true := by decide +kernel
set_option maxRecDepth 100000 in
theorem X_PM4_w : X_PM4.map (X_pmw 4) = [215, 451, 452, 510, 515, 524, 528, 532, 536, 540, 544, 545, 552, 556, 561, 565, 569, 573, 580, 586, 590, 595, 599, 608, 612, 616, 622, 626, 634, 638, 642, 650, 654, 658, 662, 665, 669].filterMap (fun (i : Nat) => lw_tbl[i]?) := by decide +kernel
theorem X_PM4_g : X_PM4.all (fun e => !decide (e.2.2 = 0) || goodWord (X_pmw 4 e)) = true := by decide +kernel
theorem X_PM4_n : X_PM4.all (fun e => decide (e.2.2 = 0) || X_isNest (X_pmw 4 e)) = true := by decide +kernel
set_option maxRecDepth 100000 in
theorem X_PF5_w : X_PF5.map (X_pfw 5) = [280, 282, 284, 286, 288, 290, 292].filterMap (fun (i : Nat) => lw_tbl[i]?) := by decide +kernel
theorem X_PF5_g : X_PF5.all (fun e => !decide (e.2.2.2 = 0) || goodWord (X_pfw 5 e)) = true := by decide +kernel
theorem X_PF5_n : X_PF5.all (fun e => decide (e.2.2.2 = 0) || X_isNest (X_pfw 5 e)) = true := by decide +kernel
set_option maxRecDepth 100000 in
theorem X_PM5_w : X_PM5.map (X_pmw 5) = [].filterMap (fun (i : Nat) => lw_tbl[i]?) := by decide +kernel
theorem X_PM5_g : X_PM5.all (fun e => !decide (e.2.2 = 0) || goodWord (X_pmw 5 e)) = true := by decide +kernel
theorem X_PM5_n : X_PM5.all (fun e => decide (e.2.2 = 0) || X_isNest (X_pmw 5 e)) = true := by decide +kernel
set_option maxRecDepth 100000 in
theorem X_PF6_w : X_PF6.map (X_pfw 6) = [65, 260, 264, 266].filterMap (fun (i : Nat) => lw_tbl[i]?) := by decide +kernel
theorem X_PF6_g : X_PF6.all (fun e => !decide (e.2.2.2 = 0) || goodWord (X_pfw 6 e)) = true := by decide +kernel
theorem X_PF6_n : X_PF6.all (fun e => decide (e.2.2.2 = 0) || X_isNest (X_pfw 6 e)) = true := by decide +kernel
set_option maxRecDepth 100000 in
theorem X_PM6_w : X_PM6.map (X_pmw 6) = [715, 716, 767].filterMap (fun (i : Nat) => lw_tbl[i]?) := by decide +kernel
theorem X_PM6_g : X_PM6.all (fun e => !decide (e.2.2 = 0) || goodWord (X_pmw 6 e)) = true := by decide +kernel
theorem X_PM6_n : X_PM6.all (fun e => decide (e.2.2 = 0) || X_isNest (X_pmw 6 e)) = true := by decide +kernel
set_option maxRecDepth 100000 in
theorem X_PF7_w : X_PF7.map (X_pfw 7) = [62, 63].filterMap (fun (i : Nat) => lw_tbl[i]?) := by decide +kernel
theorem X_PF7_g : X_PF7.all (fun e => !decide (e.2.2.2 = 0) || goodWord (X_pfw 7 e)) = true := by decide +kernel
theorem X_PF7_n : X_PF7.all (fun e => decide (e.2.2.2 = 0) || X_isNest (X_pfw 7 e)) = true := by decide +kernel
set_option maxRecDepth 100000 in
theorem X_PM7_w : X_PM7.map (X_pmw 7) = [].filterMap (fun (i : Nat) => lw_tbl[i]?) := by decide +kernel
theorem X_PM7_g : X_PM7.all (fun e => !decide (e.2.2 = 0) || goodWord (X_pmw 7 e)) = true := by decide +kernel
theorem X_PM7_n : X_PM7.all (fun e => decide (e.2.2 = 0) || X_isNest (X_pmw 7 e)) = true := by decide +kernel
set_option maxRecDepth 100000 in
theorem X_PF8_w : X_PF8.map (X_pfw 8) = [86, 89, 93, 97, 103, 108, 111, 112, 113, 115, 119, 121, 125, 129, 130].filterMap (fun (i : Nat) => lw_tbl[i]?) := by decide +kernel
theorem X_PF8_g : X_PF8.all (fun e => !decide (e.2.2.2 = 0) || goodWord (X_pfw 8 e)) = true := by decide +kernel
theorem X_PF8_n : X_PF8.all (fun e => decide (e.2.2.2 = 0) || X_isNest (X_pfw 8 e)) = true := by decide +kernel
set_option maxRecDepth 100000 in
theorem X_PM8_w : X_PM8.map (X_pmw 8) = [630, 646].filterMap (fun (i : Nat) => lw_tbl[i]?) := by decide +kernel
theorem X_PM8_g : X_PM8.all (fun e => !decide (e.2.2 = 0) || goodWord (X_pmw 8 e)) = true := by decide +kernel
theorem X_PM8_n : X_PM8.all (fun e => decide (e.2.2 = 0) || X_isNest (X_pmw 8 e)) = true := by decide +kernel
set_option maxRecDepth 100000 in
theorem X_PF9_w : X_PF9.map (X_pfw 9) = [393, 394, 395, 396, 397, 398, 399].filterMap (fun (i : Nat) => lw_tbl[i]?) := by decide +kernel
theorem X_PF9_g : X_PF9.all (fun e => !decide (e.2.2.2 = 0) || goodWord (X_pfw 9 e)) = true := by decide +kernel
theorem X_PF9_n : X_PF9.all (fun e => decide (e.2.2.2 = 0) || X_isNest (X_pfw 9 e)) = true := by decide +kernel
set_option maxRecDepth 100000 in
theorem X_PM9_w : X_PM9.map (X_pmw 9) = [].filterMap (fun (i : Nat) => lw_tbl[i]?) := by decide +kernel
theorem X_PM9_g : X_PM9.all (fun e => !decide (e.2.2 = 0) || goodWord (X_pmw 9 e)) = true := by decide +kernel
theorem X_PM9_n : X_PM9.all (fun e => decide (e.2.2 = 0) || X_isNest (X_pmw 9 e)) = true := by decide +kernel
set_option maxRecDepth 100000 in
theorem X_PF10_w : X_PF10.map (X_pfw 10) = [64, 87, 90, 94, 99, 104, 109, 171, 173, 177, 187, 262, 281, 283, 285, 287, 289, 291, 415, 416, 417, 418, 419, 420, 421, 422, 423].filterMap (fun (i : Nat) => lw_tbl[i]?) := by decide +kernel
theorem X_PF10_g : X_PF10.all (fun e => !decide (e.2.2.2 = 0) || goodWord (X_pfw 10 e)) = true := by decide +kernel
theorem X_PF10_n : X_PF10.all (fun e => decide (e.2.2.2 = 0) || X_isNest (X_pfw 10 e)) = true := by decide +kernel
set_option maxRecDepth 100000 in
theorem X_PM10_w : X_PM10.map (X_pmw 10) = [58, 75, 209, 256, 276, 310, 343, 389, 447, 691, 695, 699, 703, 711, 724, 800, 812, 883, 898, 902].filterMap (fun (i : Nat) => lw_tbl[i]?) := by decide +kernel
theorem X_PM10_g : X_PM10.all (fun e => !decide (e.2.2 = 0) || goodWord (X_pmw 10 e)) = true := by decide +kernel
theorem X_PM10_n : X_PM10.all (fun e => decide (e.2.2 = 0) || X_isNest (X_pmw 10 e)) = true := by decide +kernel
set_option maxRecDepth 100000 in
theorem X_PF11_w : X_PF11.map (X_pfw 11) = [].filterMap (fun (i : Nat) => lw_tbl[i]?) := by decide +kernel
theorem X_PF11_g : X_PF11.all (fun e => !decide (e.2.2.2 = 0) || goodWord (X_pfw 11 e)) = true := by decide +kernel
theorem X_PF11_n : X_PF11.all (fun e => decide (e.2.2.2 = 0) || X_isNest (X_pfw 11 e)) = true := by decide +kernel
set_option maxRecDepth 100000 in
theorem X_PM11_w : X_PM11.map (X_pmw 11) = [50, 443, 707, 720, 804, 808, 864, 868, 871, 874, 879, 887, 891, 894].filterMap (fun (i : Nat) => lw_tbl[i]?) := by decide +kernel
theorem X_PM11_g : X_PM11.all (fun e => !decide (e.2.2 = 0) || goodWord (X_pmw 11 e)) = true := by decide +kernel
theorem X_PM11_n : X_PM11.all (fun e => decide (e.2.2 = 0) || X_isNest (X_pmw 11 e)) = true := by decide +kernel
