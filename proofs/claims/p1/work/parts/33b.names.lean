/-! names, printed: 1 -/
set_option maxRecDepth 100000 in
set_option maxHeartbeats 4000000 in
theorem in_wsL_law0_r1 : ∀ w ∈ wsL_law0_r1, w ∈ lw_tbl := fun w h => (goodIn_r (big := lw_tbl) wsL_law0_r1 [79, 80, 57, 710, 711, 61, 1140, 1141, 81, 82, 83, 84, 85, 86, 87, 208, 89, 209, 91, 92, 58, 210, 123, 211] rfl (by decide +kernel) w h).1
set_option maxRecDepth 100000 in
set_option maxHeartbeats 4000000 in
theorem in_wsL_law0_r2 : ∀ w ∈ wsL_law0_r2, w ∈ lw_tbl := fun w h => (goodIn_r (big := lw_tbl) wsL_law0_r2 [124, 59, 178, 60, 94, 95, 96, 99, 101, 97, 102, 103, 104, 126, 127, 128, 139, 145, 180, 181, 182, 712, 713, 714] rfl (by decide +kernel) w h).1
set_option maxRecDepth 100000 in
set_option maxHeartbeats 4000000 in
theorem in_wsL_law0_r3 : ∀ w ∈ wsL_law0_r3, w ∈ lw_tbl := fun w h => (goodIn_r (big := lw_tbl) wsL_law0_r3 [715, 716, 717, 64, 746, 747, 751, 718, 719, 720, 728, 730, 721, 722, 63, 723, 734, 724, 725, 62, 726, 727, 377, 378] rfl (by decide +kernel) w h).1
set_option maxRecDepth 100000 in
set_option maxHeartbeats 4000000 in
theorem in_wsL_law0_r4 : ∀ w ∈ wsL_law0_r4, w ∈ lw_tbl := fun w h => (goodIn_r (big := lw_tbl) wsL_law0_r4 [56, 379, 380, 381, 382, 383, 384, 385, 469, 69, 212, 386, 387, 388, 389, 390, 391, 392, 393, 394, 395, 396, 397, 398] rfl (by decide +kernel) w h).1
set_option maxRecDepth 100000 in
set_option maxHeartbeats 4000000 in
theorem in_wsL_law0_r5 : ∀ w ∈ wsL_law0_r5, w ∈ lw_tbl := fun w h => (goodIn_r (big := lw_tbl) wsL_law0_r5 [399, 400, 401, 68, 487, 28, 488, 129, 131, 133, 135, 774, 775, 776, 777, 745, 778, 779, 780, 781, 782, 783, 784, 785] rfl (by decide +kernel) w h).1
set_option maxRecDepth 100000 in
set_option maxHeartbeats 4000000 in
theorem in_wsL_law0_r6 : ∀ w ∈ wsL_law0_r6, w ∈ lw_tbl := fun w h => (goodIn_r (big := lw_tbl) wsL_law0_r6 [786, 787, 789, 33, 790, 791, 792, 793, 794, 733, 795, 796, 797, 798, 737, 736, 799, 801, 34, 802, 803, 805, 35, 806] rfl (by decide +kernel) w h).1
set_option maxRecDepth 100000 in
set_option maxHeartbeats 4000000 in
theorem in_wsL_law0_r7 : ∀ w ∈ wsL_law0_r7, w ∈ lw_tbl := fun w h => (goodIn_r (big := lw_tbl) wsL_law0_r7 [807, 809, 36, 810, 848, 815, 71, 816, 849, 811, 812, 70, 813, 814, 817, 818, 819, 820, 821, 822, 72, 823, 824, 1156] rfl (by decide +kernel) w h).1
set_option maxRecDepth 100000 in
set_option maxHeartbeats 4000000 in
theorem in_wsL_law0_r8 : ∀ w ∈ wsL_law0_r8, w ∈ lw_tbl := fun w h => (goodIn_r (big := lw_tbl) wsL_law0_r8 [825, 837, 838, 839, 840, 841, 843, 844, 845, 846, 847, 317, 316, 73, 850, 852, 37, 853, 749, 770, 771, 772, 773, 489] rfl (by decide +kernel) w h).1
set_option maxRecDepth 100000 in
set_option maxHeartbeats 4000000 in
theorem in_wsL_law0_r9 : ∀ w ∈ wsL_law0_r9, w ∈ lw_tbl := fun w h => (goodIn_r (big := lw_tbl) wsL_law0_r9 [490, 491, 492, 493, 494, 495, 496, 497, 499, 29, 500, 501, 74, 342, 344, 19, 345, 517, 518, 519, 255, 3, 256, 137] rfl (by decide +kernel) w h).1
set_option maxRecDepth 100000 in
set_option maxHeartbeats 4000000 in
theorem in_wsL_law0_r10 : ∀ w ∈ wsL_law0_r10, w ∈ lw_tbl := fun w h => (goodIn_r (big := lw_tbl) wsL_law0_r10 [141, 143, 147, 258, 259, 854, 855, 856, 857, 858, 860, 38, 861, 862, 863, 864, 865, 867, 39, 868, 883, 869, 870, 871] rfl (by decide +kernel) w h).1
set_option maxRecDepth 100000 in
set_option maxHeartbeats 4000000 in
theorem in_wsL_law0_r11 : ∀ w ∈ wsL_law0_r11, w ∈ lw_tbl := fun w h => (goodIn_r (big := lw_tbl) wsL_law0_r11 [872, 873, 874, 75, 875, 876, 877, 76, 878, 879, 880, 881, 882, 884, 885, 886, 887, 888, 889, 521, 522, 523, 524, 525] rfl (by decide +kernel) w h).1
set_option maxRecDepth 100000 in
set_option maxHeartbeats 4000000 in
theorem in_wsL_law0_r12 : ∀ w ∈ wsL_law0_r12, w ∈ lw_tbl := fun w h => (goodIn_r (big := lw_tbl) wsL_law0_r12 [526, 527, 890, 891, 892, 893, 528, 529, 530, 531, 532, 533, 534, 535, 536, 537, 894, 895, 896, 897, 898, 899, 900, 538] rfl (by decide +kernel) w h).1
set_option maxRecDepth 100000 in
set_option maxHeartbeats 4000000 in
theorem in_wsL_law0_r13 : ∀ w ∈ wsL_law0_r13, w ∈ lw_tbl := fun w h => (goodIn_r (big := lw_tbl) wsL_law0_r13 [539, 540, 541, 542, 543, 544, 545, 261, 262, 901, 902, 903, 904, 905, 906, 907, 546, 547, 548, 549, 550, 551, 552, 263] rfl (by decide +kernel) w h).1
set_option maxRecDepth 100000 in
set_option maxHeartbeats 4000000 in
theorem in_wsL_law0_r14 : ∀ w ∈ wsL_law0_r14, w ∈ lw_tbl := fun w h => (goodIn_r (big := lw_tbl) wsL_law0_r14 [265, 4, 266, 287, 288, 77, 289, 290, 291, 292, 908, 909, 910, 911, 912, 914, 40, 915, 916, 917, 918, 919, 920, 921] rfl (by decide +kernel) w h).1
set_option maxRecDepth 100000 in
set_option maxHeartbeats 4000000 in
theorem in_wsL_law0_r15 : ∀ w ∈ wsL_law0_r15, w ∈ lw_tbl := fun w h => (goodIn_r (big := lw_tbl) wsL_law0_r15 [78, 922, 923, 924, 929, 925, 927, 735, 928, 940, 944, 946, 948, 926, 950, 953, 955, 957, 731, 958, 959, 960, 961, 553] rfl (by decide +kernel) w h).1
set_option maxRecDepth 100000 in
set_option maxHeartbeats 4000000 in
theorem in_wsL_law0_r16 : ∀ w ∈ wsL_law0_r16, w ∈ lw_tbl := fun w h => (goodIn_r (big := lw_tbl) wsL_law0_r16 [554, 555, 556, 557, 558, 559, 213, 563, 30, 564, 183, 185, 187, 962, 963, 964, 965, 565, 566, 567, 568, 569, 570, 571] rfl (by decide +kernel) w h).1
set_option maxRecDepth 100000 in
set_option maxHeartbeats 4000000 in
theorem in_wsL_law0_r17 : ∀ w ∈ wsL_law0_r17, w ∈ lw_tbl := fun w h => (goodIn_r (big := lw_tbl) wsL_law0_r17 [572, 574, 31, 575, 966, 967, 968, 969, 970, 972, 41, 973, 974, 577, 578, 579, 580, 581, 582, 583, 277, 7, 278, 189] rfl (by decide +kernel) w h).1
set_option maxRecDepth 100000 in
set_option maxHeartbeats 4000000 in
theorem in_wsL_law0_r18 : ∀ w ∈ wsL_law0_r18, w ∈ lw_tbl := fun w h => (goodIn_r (big := lw_tbl) wsL_law0_r18 [975, 976, 977, 978, 979, 980, 981, 230, 231, 232, 233, 214, 982, 983, 984, 985, 748, 585, 586, 587, 588, 589, 590, 591] rfl (by decide +kernel) w h).1
set_option maxRecDepth 100000 in
set_option maxHeartbeats 4000000 in
theorem in_wsL_law0_r19 : ∀ w ∈ wsL_law0_r19, w ∈ lw_tbl := fun w h => (goodIn_r (big := lw_tbl) wsL_law0_r19 [238, 240, 0, 241, 242, 244, 1, 245, 246, 247, 248, 251, 2, 252, 149, 253, 269, 5, 270, 105, 273, 6, 274, 193] rfl (by decide +kernel) w h).1
set_option maxRecDepth 100000 in
set_option maxHeartbeats 4000000 in
theorem in_wsL_law0_r20 : ∀ w ∈ wsL_law0_r20, w ∈ lw_tbl := fun w h => (goodIn_r (big := lw_tbl) wsL_law0_r20 [191, 275, 283, 285, 8, 286, 293, 295, 9, 296, 986, 987, 988, 989, 990, 992, 42, 993, 994, 996, 43, 997, 750, 998] rfl (by decide +kernel) w h).1
set_option maxRecDepth 100000 in
set_option maxHeartbeats 4000000 in
theorem in_wsL_law0_r21 : ∀ w ∈ wsL_law0_r21, w ∈ lw_tbl := fun w h => (goodIn_r (big := lw_tbl) wsL_law0_r21 [999, 1000, 1001, 1002, 1004, 44, 1005, 592, 593, 594, 595, 596, 597, 598, 302, 10, 303, 151, 1006, 1007, 1008, 1009, 1010, 1011] rfl (by decide +kernel) w h).1
