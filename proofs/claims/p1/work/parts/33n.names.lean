/-! names, printed: 13 -/
set_option maxRecDepth 100000 in
set_option maxHeartbeats 4000000 in
theorem ggL_law_X3_digest : GoodIn wsL_law wsX3_digest := goodIn_r _ [799, 800, 801, 82, 15, 21, 366, 17, 432, 433, 434, 2, 435, 436, 437, 438, 439, 440, 441, 442, 443, 25, 444, 445, 446, 447, 212, 213, 214, 103, 104, 105, 106, 215, 40, 216, 217, 41, 218, 219, 220, 295, 296, 311, 312, 313, 314, 448, 20, 449, 450, 451, 32, 31, 452, 27, 453, 454, 455, 456, 457, 404, 405, 406, 370, 371, 372, 407, 458, 459, 460, 461, 315, 316, 317, 318, 319, 320, 321, 462, 463, 464, 465, 802, 803, 804, 494, 495, 496, 497, 585, 586, 587, 588, 36, 589, 590, 591, 592, 593, 594, 595, 34, 596, 179, 180, 181, 35, 625, 626, 627, 628, 629, 630, 631, 632, 633, 634, 635, 636, 637, 638, 639, 640, 641, 642, 643, 644, 645, 646, 205, 206, 207, 208, 647, 648, 649, 650, 651, 652, 653, 557, 558, 559, 654, 655, 656, 657, 419, 658, 659, 660, 661, 662, 663, 664, 718, 719, 720, 721, 512, 513, 514, 816, 817, 818, 819, 820, 821, 822, 831, 832, 833, 834, 835, 836, 837, 838, 839, 840, 841, 842, 843, 844, 845, 846, 847, 848, 849, 850, 851, 852, 853, 854, 855] rfl (by decide +kernel)
set_option maxRecDepth 20000 in
theorem gL_law_X3_digest : GoodIn wsL_law (wsV RL 196 RX3 yX3_digest wsX3_digest) := goodIn_app (goodIn_of _ (by decide +kernel)) ggL_law_X3_digest
set_option maxRecDepth 100000 in
set_option maxHeartbeats 4000000 in
theorem ggL_law_X4_digest : GoodIn wsL_law wsX4_digest := goodIn_r _ [808, 111, 809, 810, 52, 236, 53, 470, 471, 472, 5, 473, 186, 125, 126, 127, 51, 128, 129, 326, 327, 328, 329, 330, 331, 332, 333, 334, 335, 336, 337, 338, 339, 340, 341, 12, 13, 342, 343, 135, 344, 345, 346, 347, 348, 349, 350, 351, 352, 353, 354, 355, 356, 357, 358, 474, 475, 476, 477, 22, 478, 54, 479, 480, 481, 482, 134, 59, 483, 484, 485, 486, 237, 238, 239, 240, 241, 242, 243, 244, 245, 246, 247, 248, 249, 250, 251, 252, 253, 254, 255, 256, 257, 258, 301, 302, 303, 130, 131, 132, 133, 136, 137, 138, 139, 140, 141, 142, 143, 144, 145, 146, 147, 58, 148, 149, 150, 151, 152, 153, 154, 155, 156, 157, 158, 159, 160, 161, 162, 163, 164, 165, 166, 167, 168, 169, 170, 171, 172, 173, 174, 175, 176, 177, 178, 179, 180, 181, 396, 316, 317, 318, 319, 320, 321, 811, 812, 813, 814, 815, 502, 503, 504, 601, 602, 603, 604, 605, 49, 50, 55, 56, 57, 60, 61, 62, 63, 64, 65, 66, 67, 68, 69, 606, 607, 608, 609, 610, 611, 612, 613, 614, 672, 673, 674, 675, 676, 677, 678, 679, 680, 681, 682, 683, 684, 685, 686, 687, 688, 689, 690, 691, 564, 565, 566, 692, 693, 694, 695, 424, 412, 413, 414, 696, 697, 698, 699, 726, 727, 728, 729, 519, 520, 521, 823, 824, 825, 826, 827, 828, 829, 830, 856, 857, 858, 859, 860, 861, 862] rfl (by decide +kernel)
set_option maxRecDepth 20000 in
theorem gL_law_X4_digest : GoodIn wsL_law (wsV RL 200 RX4 yX4_digest wsX4_digest) := goodIn_app (goodIn_of _ (by decide +kernel)) ggL_law_X4_digest
abbrev vwCl : List vw_C := [(RJx35411, TJx35411, 4), (RJx4a65c, TJx4a65c, 3), (RX0, TX0, 6), (RX1, TX1, 7), (RX2, TX2, 12), (RX3, TX3, 7), (RX4, TX4, 8)]
theorem dX4_init_0 : decode cX4_init 0 = .ok (.aload_n 0, 1) := by decide +kernel
theorem dX4_init_1 : decode cX4_init 1 = .ok (.invokespecial 1, 3) := by decide +kernel
theorem dX4_init_4 : decode cX4_init 4 = .ok (.aload_n 0, 1) := by decide +kernel
theorem dX4_init_5 : decode cX4_init 5 = .ok (.new 7, 3) := by decide +kernel
theorem dX4_init_8 : decode cX4_init 8 = .ok (.dup, 1) := by decide +kernel
theorem dX4_init_9 : decode cX4_init 9 = .ok (.invokespecial 9, 3) := by decide +kernel
theorem dX4_init_12 : decode cX4_init 12 = .ok (.putfield 10, 3) := by decide +kernel
theorem dX4_init_15 : decode cX4_init 15 = .ok (.aload_n 0, 1) := by decide +kernel
theorem dX4_init_16 : decode cX4_init 16 = .ok (.new 7, 3) := by decide +kernel
theorem dX4_init_19 : decode cX4_init 19 = .ok (.dup, 1) := by decide +kernel
theorem dX4_init_20 : decode cX4_init 20 = .ok (.invokespecial 9, 3) := by decide +kernel
theorem dX4_init_23 : decode cX4_init 23 = .ok (.putfield 16, 3) := by decide +kernel
theorem dX4_init_26 : decode cX4_init 26 = .ok (.aload_n 0, 1) := by decide +kernel
theorem dX4_init_27 : decode cX4_init 27 = .ok (.new 7, 3) := by decide +kernel
theorem dX4_init_30 : decode cX4_init 30 = .ok (.dup, 1) := by decide +kernel
theorem dX4_init_31 : decode cX4_init 31 = .ok (.invokespecial 9, 3) := by decide +kernel
theorem dX4_init_34 : decode cX4_init 34 = .ok (.putfield 19, 3) := by decide +kernel
theorem dX4_init_37 : decode cX4_init 37 = .ok (.return_, 1) := by decide +kernel
theorem dX4_thrown_0 : decode cX4_thrown 0 = .ok (.aload_n 0, 1) := by decide +kernel
theorem dX4_thrown_1 : decode cX4_thrown 1 = .ok (.getfield 22, 3) := by decide +kernel
theorem dX4_thrown_4 : decode cX4_thrown 4 = .ok (.ireturn, 1) := by decide +kernel
theorem dX4_refuse_0 : decode cX4_refuse 0 = .ok (.aload_n 0, 1) := by decide +kernel
theorem dX4_refuse_1 : decode cX4_refuse 1 = .ok (.iload_n 1, 1) := by decide +kernel
theorem dX4_refuse_2 : decode cX4_refuse 2 = .ok (.putfield 22, 3) := by decide +kernel
theorem dX4_refuse_5 : decode cX4_refuse 5 = .ok (.iconst 0, 1) := by decide +kernel
theorem dX4_refuse_6 : decode cX4_refuse 6 = .ok (.ireturn, 1) := by decide +kernel
theorem dX4_is_0 : decode cX4_is 0 = .ok (.iload_n 0, 1) := by decide +kernel
theorem dX4_is_1 : decode cX4_is 1 = .ok (.iload_n 1, 1) := by decide +kernel
theorem dX4_is_2 : decode cX4_is 2 = .ok (.if_icmp .lt 12, 3) := by decide +kernel
theorem dX4_is_5 : decode cX4_is 5 = .ok (.iload_n 0, 1) := by decide +kernel
theorem dX4_is_6 : decode cX4_is 6 = .ok (.iload_n 2, 1) := by decide +kernel
theorem dX4_is_7 : decode cX4_is 7 = .ok (.if_icmp .gt 7, 3) := by decide +kernel
theorem dX4_is_10 : decode cX4_is 10 = .ok (.iconst 1, 1) := by decide +kernel
theorem dX4_is_11 : decode cX4_is 11 = .ok (.goto 4, 3) := by decide +kernel
theorem dX4_is_14 : decode cX4_is 14 = .ok (.iconst 0, 1) := by decide +kernel
theorem dX4_is_15 : decode cX4_is 15 = .ok (.ireturn, 1) := by decide +kernel
theorem dX4_isName_0 : decode cX4_isName 0 = .ok (.iload_n 0, 1) := by decide +kernel
theorem dX4_isName_1 : decode cX4_isName 1 = .ok (.iconst 1, 1) := by decide +kernel
theorem dX4_isName_2 : decode cX4_isName 2 = .ok (.sipush 9999, 3) := by decide +kernel
theorem dX4_isName_5 : decode cX4_isName 5 = .ok (.invokestatic 26, 3) := by decide +kernel
theorem dX4_isName_8 : decode cX4_isName 8 = .ok (.ifCond .ne 5, 3) := by decide +kernel
theorem dX4_isName_11 : decode cX4_isName 11 = .ok (.iconst 0, 1) := by decide +kernel
theorem dX4_isName_12 : decode cX4_isName 12 = .ok (.ireturn, 1) := by decide +kernel
theorem dX4_isName_13 : decode cX4_isName 13 = .ok (.iload_n 0, 1) := by decide +kernel
theorem dX4_isName_14 : decode cX4_isName 14 = .ok (.istore_n 1, 1) := by decide +kernel
theorem dX4_isName_15 : decode cX4_isName 15 = .ok (.iload_n 1, 1) := by decide +kernel
theorem dX4_isName_16 : decode cX4_isName 16 = .ok (.ifCond .le 20, 3) := by decide +kernel
theorem dX4_isName_19 : decode cX4_isName 19 = .ok (.iload_n 1, 1) := by decide +kernel
theorem dX4_isName_20 : decode cX4_isName 20 = .ok (.bipush 10, 2) := by decide +kernel
theorem dX4_isName_22 : decode cX4_isName 22 = .ok (.irem, 1) := by decide +kernel
theorem dX4_isName_23 : decode cX4_isName 23 = .ok (.ifCond .ne 5, 3) := by decide +kernel
theorem dX4_isName_26 : decode cX4_isName 26 = .ok (.iconst 0, 1) := by decide +kernel
theorem dX4_isName_27 : decode cX4_isName 27 = .ok (.ireturn, 1) := by decide +kernel
theorem dX4_isName_28 : decode cX4_isName 28 = .ok (.iload_n 1, 1) := by decide +kernel
theorem dX4_isName_29 : decode cX4_isName 29 = .ok (.bipush 10, 2) := by decide +kernel
theorem dX4_isName_31 : decode cX4_isName 31 = .ok (.idiv, 1) := by decide +kernel
theorem dX4_isName_32 : decode cX4_isName 32 = .ok (.istore_n 1, 1) := by decide +kernel
theorem dX4_isName_33 : decode cX4_isName 33 = .ok (.goto (-18), 3) := by decide +kernel
theorem dX4_isName_36 : decode cX4_isName 36 = .ok (.iconst 1, 1) := by decide +kernel
theorem dX4_isName_37 : decode cX4_isName 37 = .ok (.ireturn, 1) := by decide +kernel
theorem dX4_isNameOrAll_0 : decode cX4_isNameOrAll 0 = .ok (.iload_n 0, 1) := by decide +kernel
theorem dX4_isNameOrAll_1 : decode cX4_isNameOrAll 1 = .ok (.ifCond .eq 10, 3) := by decide +kernel
theorem dX4_isNameOrAll_4 : decode cX4_isNameOrAll 4 = .ok (.iload_n 0, 1) := by decide +kernel
theorem dX4_isNameOrAll_5 : decode cX4_isNameOrAll 5 = .ok (.invokestatic 30, 3) := by decide +kernel
theorem dX4_isNameOrAll_8 : decode cX4_isNameOrAll 8 = .ok (.ifCond .eq 7, 3) := by decide +kernel
theorem dX4_isNameOrAll_11 : decode cX4_isNameOrAll 11 = .ok (.iconst 1, 1) := by decide +kernel
theorem dX4_isNameOrAll_12 : decode cX4_isNameOrAll 12 = .ok (.goto 4, 3) := by decide +kernel
theorem dX4_isNameOrAll_15 : decode cX4_isNameOrAll 15 = .ok (.iconst 0, 1) := by decide +kernel
theorem dX4_isNameOrAll_16 : decode cX4_isNameOrAll 16 = .ok (.ireturn, 1) := by decide +kernel
theorem dX4_isUnderNow_0 : decode cX4_isUnderNow 0 = .ok (.iload_n 0, 1) := by decide +kernel
theorem dX4_isUnderNow_1 : decode cX4_isUnderNow 1 = .ok (.istore_n 2, 1) := by decide +kernel
theorem dX4_isUnderNow_2 : decode cX4_isUnderNow 2 = .ok (.iload_n 2, 1) := by decide +kernel
theorem dX4_isUnderNow_3 : decode cX4_isUnderNow 3 = .ok (.ifCond .le 18, 3) := by decide +kernel
theorem dX4_isUnderNow_6 : decode cX4_isUnderNow 6 = .ok (.iload_n 2, 1) := by decide +kernel
theorem dX4_isUnderNow_7 : decode cX4_isUnderNow 7 = .ok (.iload_n 1, 1) := by decide +kernel
theorem dX4_isUnderNow_8 : decode cX4_isUnderNow 8 = .ok (.if_icmp .ne 5, 3) := by decide +kernel
theorem dX4_isUnderNow_11 : decode cX4_isUnderNow 11 = .ok (.iconst 1, 1) := by decide +kernel
theorem dX4_isUnderNow_12 : decode cX4_isUnderNow 12 = .ok (.ireturn, 1) := by decide +kernel
theorem dX4_isUnderNow_13 : decode cX4_isUnderNow 13 = .ok (.iload_n 2, 1) := by decide +kernel
theorem dX4_isUnderNow_14 : decode cX4_isUnderNow 14 = .ok (.bipush 10, 2) := by decide +kernel
theorem dX4_isUnderNow_16 : decode cX4_isUnderNow 16 = .ok (.idiv, 1) := by decide +kernel
theorem dX4_isUnderNow_17 : decode cX4_isUnderNow 17 = .ok (.istore_n 2, 1) := by decide +kernel
theorem dX4_isUnderNow_18 : decode cX4_isUnderNow 18 = .ok (.goto (-16), 3) := by decide +kernel
theorem dX4_isUnderNow_21 : decode cX4_isUnderNow 21 = .ok (.iload_n 1, 1) := by decide +kernel
theorem dX4_isUnderNow_22 : decode cX4_isUnderNow 22 = .ok (.ifCond .ne 7, 3) := by decide +kernel
theorem dX4_isUnderNow_25 : decode cX4_isUnderNow 25 = .ok (.iconst 1, 1) := by decide +kernel
theorem dX4_isUnderNow_26 : decode cX4_isUnderNow 26 = .ok (.goto 4, 3) := by decide +kernel
theorem dX4_isUnderNow_29 : decode cX4_isUnderNow 29 = .ok (.iconst 0, 1) := by decide +kernel
theorem dX4_isUnderNow_30 : decode cX4_isUnderNow 30 = .ok (.ireturn, 1) := by decide +kernel
theorem dX4_signedNow_0 : decode cX4_signedNow 0 = .ok (.iload_n 1, 1) := by decide +kernel
theorem dX4_signedNow_1 : decode cX4_signedNow 1 = .ok (.iconst 2, 1) := by decide +kernel
theorem dX4_signedNow_2 : decode cX4_signedNow 2 = .ok (.iload_n 0, 1) := by decide +kernel
theorem dX4_signedNow_3 : decode cX4_signedNow 3 = .ok (.imul, 1) := by decide +kernel
theorem dX4_signedNow_4 : decode cX4_signedNow 4 = .ok (.iconst 3, 1) := by decide +kernel
theorem dX4_signedNow_5 : decode cX4_signedNow 5 = .ok (.iadd, 1) := by decide +kernel
theorem dX4_signedNow_6 : decode cX4_signedNow 6 = .ok (.imul, 1) := by decide +kernel
theorem dX4_signedNow_7 : decode cX4_signedNow 7 = .ok (.sipush 997, 3) := by decide +kernel
theorem dX4_signedNow_10 : decode cX4_signedNow 10 = .ok (.irem, 1) := by decide +kernel
theorem dX4_signedNow_11 : decode cX4_signedNow 11 = .ok (.ireturn, 1) := by decide +kernel
theorem dX4_print_0 : decode cX4_print 0 = .ok (.iload_n 1, 1) := by decide +kernel
theorem dX4_print_1 : decode cX4_print 1 = .ok (.istore_n 3, 1) := by decide +kernel
theorem dX4_print_2 : decode cX4_print 2 = .ok (.iconst 0, 1) := by decide +kernel
theorem dX4_print_3 : decode cX4_print 3 = .ok (.istore 4, 2) := by decide +kernel
theorem dX4_print_5 : decode cX4_print 5 = .ok (.iload 4, 2) := by decide +kernel
theorem dX4_print_7 : decode cX4_print 7 = .ok (.iload_n 2, 1) := by decide +kernel
theorem dX4_print_8 : decode cX4_print 8 = .ok (.if_icmp .ge 23, 3) := by decide +kernel
theorem dX4_print_11 : decode cX4_print 11 = .ok (.iload_n 3, 1) := by decide +kernel
theorem dX4_print_12 : decode cX4_print 12 = .ok (.bipush 31, 2) := by decide +kernel
theorem dX4_print_14 : decode cX4_print 14 = .ok (.imul, 1) := by decide +kernel
theorem dX4_print_15 : decode cX4_print 15 = .ok (.aload_n 0, 1) := by decide +kernel
theorem dX4_print_16 : decode cX4_print 16 = .ok (.iload 4, 2) := by decide +kernel
theorem dX4_print_18 : decode cX4_print 18 = .ok (.iaload, 1) := by decide +kernel
theorem dX4_print_19 : decode cX4_print 19 = .ok (.iadd, 1) := by decide +kernel
theorem dX4_print_20 : decode cX4_print 20 = .ok (.sipush 997, 3) := by decide +kernel
theorem dX4_print_23 : decode cX4_print 23 = .ok (.irem, 1) := by decide +kernel
theorem dX4_print_24 : decode cX4_print 24 = .ok (.istore_n 3, 1) := by decide +kernel
theorem dX4_print_25 : decode cX4_print 25 = .ok (.iinc 4 1, 3) := by decide +kernel
theorem dX4_print_28 : decode cX4_print 28 = .ok (.goto (-23), 3) := by decide +kernel
theorem dX4_print_31 : decode cX4_print 31 = .ok (.iload_n 3, 1) := by decide +kernel
theorem dX4_print_32 : decode cX4_print 32 = .ok (.ireturn, 1) := by decide +kernel
theorem dX4_print__0 : decode cX4_print_ 0 = .ok (.aload_n 0, 1) := by decide +kernel
theorem dX4_print__1 : decode cX4_print_ 1 = .ok (.bipush 17, 2) := by decide +kernel
theorem dX4_print__3 : decode cX4_print_ 3 = .ok (.bipush 10, 2) := by decide +kernel
theorem dX4_print__5 : decode cX4_print_ 5 = .ok (.invokestatic 34, 3) := by decide +kernel
theorem dX4_print__8 : decode cX4_print_ 8 = .ok (.ireturn, 1) := by decide +kernel
theorem dX4_printOfList_0 : decode cX4_printOfList 0 = .ok (.aload_n 0, 1) := by decide +kernel
theorem dX4_printOfList_1 : decode cX4_printOfList 1 = .ok (.bipush 19, 2) := by decide +kernel
theorem dX4_printOfList_3 : decode cX4_printOfList 3 = .ok (.iconst 3, 1) := by decide +kernel
theorem dX4_printOfList_4 : decode cX4_printOfList 4 = .ok (.invokestatic 34, 3) := by decide +kernel
theorem dX4_printOfList_7 : decode cX4_printOfList 7 = .ok (.bipush 31, 2) := by decide +kernel
theorem dX4_printOfList_9 : decode cX4_printOfList 9 = .ok (.imul, 1) := by decide +kernel
theorem dX4_printOfList_10 : decode cX4_printOfList 10 = .ok (.aload_n 0, 1) := by decide +kernel
theorem dX4_printOfList_11 : decode cX4_printOfList 11 = .ok (.iconst 3, 1) := by decide +kernel
theorem dX4_printOfList_12 : decode cX4_printOfList 12 = .ok (.iaload, 1) := by decide +kernel
theorem dX4_printOfList_13 : decode cX4_printOfList 13 = .ok (.sipush 997, 3) := by decide +kernel
theorem dX4_printOfList_16 : decode cX4_printOfList 16 = .ok (.irem, 1) := by decide +kernel
theorem dX4_printOfList_17 : decode cX4_printOfList 17 = .ok (.iadd, 1) := by decide +kernel
theorem dX4_printOfList_18 : decode cX4_printOfList 18 = .ok (.sipush 997, 3) := by decide +kernel
theorem dX4_printOfList_21 : decode cX4_printOfList 21 = .ok (.irem, 1) := by decide +kernel
theorem dX4_printOfList_22 : decode cX4_printOfList 22 = .ok (.ireturn, 1) := by decide +kernel
theorem dX4_backsNow_0 : decode cX4_backsNow 0 = .ok (.aload_n 0, 1) := by decide +kernel
theorem dX4_backsNow_1 : decode cX4_backsNow 1 = .ok (.getfield 10, 3) := by decide +kernel
theorem dX4_backsNow_4 : decode cX4_backsNow 4 = .ok (.iload_n 2, 1) := by decide +kernel
theorem dX4_backsNow_5 : decode cX4_backsNow 5 = .ok (.invokevirtual 38, 3) := by decide +kernel
theorem dX4_backsNow_8 : decode cX4_backsNow 8 = .ok (.checkcast 42, 3) := by decide +kernel
theorem dX4_backsNow_11 : decode cX4_backsNow 11 = .ok (.astore_n 3, 1) := by decide +kernel
theorem dX4_backsNow_12 : decode cX4_backsNow 12 = .ok (.aload_n 0, 1) := by decide +kernel
theorem dX4_backsNow_13 : decode cX4_backsNow 13 = .ok (.getfield 10, 3) := by decide +kernel
theorem dX4_backsNow_16 : decode cX4_backsNow 16 = .ok (.iload_n 1, 1) := by decide +kernel
theorem dX4_backsNow_17 : decode cX4_backsNow 17 = .ok (.invokevirtual 38, 3) := by decide +kernel
theorem dX4_backsNow_20 : decode cX4_backsNow 20 = .ok (.checkcast 42, 3) := by decide +kernel
theorem dX4_backsNow_23 : decode cX4_backsNow 23 = .ok (.iconst 0, 1) := by decide +kernel
theorem dX4_backsNow_24 : decode cX4_backsNow 24 = .ok (.iaload, 1) := by decide +kernel
theorem dX4_backsNow_25 : decode cX4_backsNow 25 = .ok (.aload_n 3, 1) := by decide +kernel
theorem dX4_backsNow_26 : decode cX4_backsNow 26 = .ok (.iconst 1, 1) := by decide +kernel
theorem dX4_backsNow_27 : decode cX4_backsNow 27 = .ok (.iaload, 1) := by decide +kernel
theorem dX4_backsNow_28 : decode cX4_backsNow 28 = .ok (.if_icmp .ne 34, 3) := by decide +kernel
theorem dX4_backsNow_31 : decode cX4_backsNow 31 = .ok (.aload_n 0, 1) := by decide +kernel
theorem dX4_backsNow_32 : decode cX4_backsNow 32 = .ok (.getfield 10, 3) := by decide +kernel
theorem dX4_backsNow_35 : decode cX4_backsNow 35 = .ok (.iload_n 1, 1) := by decide +kernel
theorem dX4_backsNow_36 : decode cX4_backsNow 36 = .ok (.invokevirtual 38, 3) := by decide +kernel
theorem dX4_backsNow_39 : decode cX4_backsNow 39 = .ok (.checkcast 42, 3) := by decide +kernel
theorem dX4_backsNow_42 : decode cX4_backsNow 42 = .ok (.iconst 2, 1) := by decide +kernel
theorem dX4_backsNow_43 : decode cX4_backsNow 43 = .ok (.iaload, 1) := by decide +kernel
theorem dX4_backsNow_44 : decode cX4_backsNow 44 = .ok (.aload_n 3, 1) := by decide +kernel
theorem dX4_backsNow_45 : decode cX4_backsNow 45 = .ok (.invokestatic 44, 3) := by decide +kernel
theorem dX4_backsNow_48 : decode cX4_backsNow 48 = .ok (.invokestatic 47, 3) := by decide +kernel
theorem dX4_backsNow_51 : decode cX4_backsNow 51 = .ok (.aload_n 3, 1) := by decide +kernel
theorem dX4_backsNow_52 : decode cX4_backsNow 52 = .ok (.bipush 10, 2) := by decide +kernel
theorem dX4_backsNow_54 : decode cX4_backsNow 54 = .ok (.iaload, 1) := by decide +kernel
theorem dX4_backsNow_55 : decode cX4_backsNow 55 = .ok (.if_icmp .ne 7, 3) := by decide +kernel
theorem dX4_backsNow_58 : decode cX4_backsNow 58 = .ok (.iconst 1, 1) := by decide +kernel
theorem dX4_backsNow_59 : decode cX4_backsNow 59 = .ok (.goto 4, 3) := by decide +kernel
theorem dX4_backsNow_62 : decode cX4_backsNow 62 = .ok (.iconst 0, 1) := by decide +kernel
theorem dX4_backsNow_63 : decode cX4_backsNow 63 = .ok (.ireturn, 1) := by decide +kernel
theorem dX4_forget_0 : decode cX4_forget 0 = .ok (.aload_n 0, 1) := by decide +kernel
theorem dX4_forget_1 : decode cX4_forget 1 = .ok (.aconst_null, 1) := by decide +kernel
theorem dX4_forget_2 : decode cX4_forget 2 = .ok (.putfield 51, 3) := by decide +kernel
theorem dX4_forget_5 : decode cX4_forget 5 = .ok (.return_, 1) := by decide +kernel
theorem dX4_prepare_0 : decode cX4_prepare 0 = .ok (.aload_n 0, 1) := by decide +kernel
theorem dX4_prepare_1 : decode cX4_prepare 1 = .ok (.getfield 51, 3) := by decide +kernel
theorem dX4_prepare_4 : decode cX4_prepare 4 = .ok (.ifnull 4, 3) := by decide +kernel
theorem dX4_prepare_7 : decode cX4_prepare 7 = .ok (.return_, 1) := by decide +kernel
theorem dX4_prepare_8 : decode cX4_prepare 8 = .ok (.aload_n 0, 1) := by decide +kernel
theorem dX4_prepare_9 : decode cX4_prepare 9 = .ok (.aload_n 0, 1) := by decide +kernel
theorem dX4_prepare_10 : decode cX4_prepare 10 = .ok (.getfield 10, 3) := by decide +kernel
theorem dX4_prepare_13 : decode cX4_prepare 13 = .ok (.invokevirtual 54, 3) := by decide +kernel
theorem dX4_prepare_16 : decode cX4_prepare 16 = .ok (.newarray .int, 2) := by decide +kernel
theorem dX4_prepare_18 : decode cX4_prepare 18 = .ok (.putfield 51, 3) := by decide +kernel
theorem dX4_prepare_21 : decode cX4_prepare 21 = .ok (.aload_n 0, 1) := by decide +kernel
theorem dX4_prepare_22 : decode cX4_prepare 22 = .ok (.bipush 6, 2) := by decide +kernel
theorem dX4_prepare_24 : decode cX4_prepare 24 = .ok (.newarray .int, 2) := by decide +kernel
theorem dX4_prepare_26 : decode cX4_prepare 26 = .ok (.putfield 58, 3) := by decide +kernel
theorem dX4_prepare_29 : decode cX4_prepare 29 = .ok (.aload_n 0, 1) := by decide +kernel
theorem dX4_prepare_30 : decode cX4_prepare 30 = .ok (.getfield 19, 3) := by decide +kernel
theorem dX4_prepare_33 : decode cX4_prepare 33 = .ok (.invokevirtual 61, 3) := by decide +kernel
theorem dX4_prepare_36 : decode cX4_prepare 36 = .ok (.iconst 0, 1) := by decide +kernel
theorem dX4_prepare_37 : decode cX4_prepare 37 = .ok (.istore_n 1, 1) := by decide +kernel
theorem dX4_prepare_38 : decode cX4_prepare 38 = .ok (.iload_n 1, 1) := by decide +kernel
theorem dX4_prepare_39 : decode cX4_prepare 39 = .ok (.aload_n 0, 1) := by decide +kernel
theorem dX4_prepare_40 : decode cX4_prepare 40 = .ok (.getfield 10, 3) := by decide +kernel
theorem dX4_prepare_43 : decode cX4_prepare 43 = .ok (.invokevirtual 54, 3) := by decide +kernel
theorem dX4_prepare_46 : decode cX4_prepare 46 = .ok (.if_icmp .ge 87, 3) := by decide +kernel
theorem dX4_prepare_49 : decode cX4_prepare 49 = .ok (.iconst 0, 1) := by decide +kernel
theorem dX4_prepare_50 : decode cX4_prepare 50 = .ok (.istore_n 2, 1) := by decide +kernel
theorem dX4_prepare_51 : decode cX4_prepare 51 = .ok (.iload_n 2, 1) := by decide +kernel
theorem dX4_prepare_52 : decode cX4_prepare 52 = .ok (.aload_n 0, 1) := by decide +kernel
theorem dX4_prepare_53 : decode cX4_prepare 53 = .ok (.getfield 10, 3) := by decide +kernel
theorem dX4_prepare_56 : decode cX4_prepare 56 = .ok (.invokevirtual 54, 3) := by decide +kernel
theorem dX4_prepare_59 : decode cX4_prepare 59 = .ok (.if_icmp .ge 34, 3) := by decide +kernel
theorem dX4_prepare_62 : decode cX4_prepare 62 = .ok (.aload_n 0, 1) := by decide +kernel
theorem dX4_prepare_63 : decode cX4_prepare 63 = .ok (.getfield 51, 3) := by decide +kernel
theorem dX4_prepare_66 : decode cX4_prepare 66 = .ok (.iload_n 1, 1) := by decide +kernel
theorem dX4_prepare_67 : decode cX4_prepare 67 = .ok (.dup2, 1) := by decide +kernel
theorem dX4_prepare_68 : decode cX4_prepare 68 = .ok (.iaload, 1) := by decide +kernel
theorem dX4_prepare_69 : decode cX4_prepare 69 = .ok (.aload_n 0, 1) := by decide +kernel
theorem dX4_prepare_70 : decode cX4_prepare 70 = .ok (.iload_n 2, 1) := by decide +kernel
theorem dX4_prepare_71 : decode cX4_prepare 71 = .ok (.iload_n 1, 1) := by decide +kernel
theorem dX4_prepare_72 : decode cX4_prepare 72 = .ok (.invokevirtual 64, 3) := by decide +kernel
theorem dX4_prepare_75 : decode cX4_prepare 75 = .ok (.ifCond .eq 9, 3) := by decide +kernel
theorem dX4_prepare_78 : decode cX4_prepare 78 = .ok (.iconst 1, 1) := by decide +kernel
theorem dX4_prepare_79 : decode cX4_prepare 79 = .ok (.iload_n 2, 1) := by decide +kernel
theorem dX4_prepare_80 : decode cX4_prepare 80 = .ok (.ishl, 1) := by decide +kernel
theorem dX4_prepare_81 : decode cX4_prepare 81 = .ok (.goto 4, 3) := by decide +kernel
theorem dX4_prepare_84 : decode cX4_prepare 84 = .ok (.iconst 0, 1) := by decide +kernel
theorem dX4_prepare_85 : decode cX4_prepare 85 = .ok (.ior, 1) := by decide +kernel
theorem dX4_prepare_86 : decode cX4_prepare 86 = .ok (.iastore, 1) := by decide +kernel
theorem dX4_prepare_87 : decode cX4_prepare 87 = .ok (.iinc 2 1, 3) := by decide +kernel
theorem dX4_prepare_90 : decode cX4_prepare 90 = .ok (.goto (-39), 3) := by decide +kernel
theorem dX4_prepare_93 : decode cX4_prepare 93 = .ok (.aload_n 0, 1) := by decide +kernel
theorem dX4_prepare_94 : decode cX4_prepare 94 = .ok (.getfield 58, 3) := by decide +kernel
theorem dX4_prepare_97 : decode cX4_prepare 97 = .ok (.iconst 0, 1) := by decide +kernel
theorem dX4_prepare_98 : decode cX4_prepare 98 = .ok (.dup2, 1) := by decide +kernel
theorem dX4_prepare_99 : decode cX4_prepare 99 = .ok (.iaload, 1) := by decide +kernel
theorem dX4_prepare_100 : decode cX4_prepare 100 = .ok (.aload_n 0, 1) := by decide +kernel
theorem dX4_prepare_101 : decode cX4_prepare 101 = .ok (.getfield 10, 3) := by decide +kernel
theorem dX4_prepare_104 : decode cX4_prepare 104 = .ok (.iload_n 1, 1) := by decide +kernel
theorem dX4_prepare_105 : decode cX4_prepare 105 = .ok (.invokevirtual 38, 3) := by decide +kernel
theorem dX4_prepare_108 : decode cX4_prepare 108 = .ok (.checkcast 42, 3) := by decide +kernel
theorem dX4_prepare_111 : decode cX4_prepare 111 = .ok (.bipush 12, 2) := by decide +kernel
theorem dX4_prepare_113 : decode cX4_prepare 113 = .ok (.iaload, 1) := by decide +kernel
theorem dX4_prepare_114 : decode cX4_prepare 114 = .ok (.iload_n 1, 1) := by decide +kernel
theorem dX4_prepare_115 : decode cX4_prepare 115 = .ok (.ishl, 1) := by decide +kernel
theorem dX4_prepare_116 : decode cX4_prepare 116 = .ok (.ior, 1) := by decide +kernel
theorem dX4_prepare_117 : decode cX4_prepare 117 = .ok (.iastore, 1) := by decide +kernel
theorem dX4_prepare_118 : decode cX4_prepare 118 = .ok (.aload_n 0, 1) := by decide +kernel
theorem dX4_prepare_119 : decode cX4_prepare 119 = .ok (.getfield 19, 3) := by decide +kernel
theorem dX4_prepare_122 : decode cX4_prepare 122 = .ok (.aconst_null, 1) := by decide +kernel
theorem dX4_prepare_123 : decode cX4_prepare 123 = .ok (.invokevirtual 68, 3) := by decide +kernel
theorem dX4_prepare_126 : decode cX4_prepare 126 = .ok (.pop, 1) := by decide +kernel
theorem dX4_prepare_127 : decode cX4_prepare 127 = .ok (.iinc 1 1, 3) := by decide +kernel
theorem dX4_prepare_130 : decode cX4_prepare 130 = .ok (.goto (-92), 3) := by decide +kernel
theorem dX4_prepare_133 : decode cX4_prepare 133 = .ok (.iconst 1, 1) := by decide +kernel
theorem dX4_prepare_134 : decode cX4_prepare 134 = .ok (.istore_n 1, 1) := by decide +kernel
theorem dX4_prepare_135 : decode cX4_prepare 135 = .ok (.iload_n 1, 1) := by decide +kernel
theorem dX4_prepare_136 : decode cX4_prepare 136 = .ok (.bipush 6, 2) := by decide +kernel
theorem dX4_prepare_138 : decode cX4_prepare 138 = .ok (.if_icmp .ge 62, 3) := by decide +kernel
theorem dX4_prepare_141 : decode cX4_prepare 141 = .ok (.iconst 0, 1) := by decide +kernel
theorem dX4_prepare_142 : decode cX4_prepare 142 = .ok (.istore_n 2, 1) := by decide +kernel
theorem dX4_prepare_143 : decode cX4_prepare 143 = .ok (.iload_n 2, 1) := by decide +kernel
theorem dX4_prepare_144 : decode cX4_prepare 144 = .ok (.aload_n 0, 1) := by decide +kernel
theorem dX4_prepare_145 : decode cX4_prepare 145 = .ok (.getfield 10, 3) := by decide +kernel
theorem dX4_prepare_148 : decode cX4_prepare 148 = .ok (.invokevirtual 54, 3) := by decide +kernel
theorem dX4_prepare_151 : decode cX4_prepare 151 = .ok (.if_icmp .ge 43, 3) := by decide +kernel
theorem dX4_prepare_154 : decode cX4_prepare 154 = .ok (.aload_n 0, 1) := by decide +kernel
theorem dX4_prepare_155 : decode cX4_prepare 155 = .ok (.getfield 58, 3) := by decide +kernel
theorem dX4_prepare_158 : decode cX4_prepare 158 = .ok (.iload_n 1, 1) := by decide +kernel
theorem dX4_prepare_159 : decode cX4_prepare 159 = .ok (.dup2, 1) := by decide +kernel
theorem dX4_prepare_160 : decode cX4_prepare 160 = .ok (.iaload, 1) := by decide +kernel
theorem dX4_prepare_161 : decode cX4_prepare 161 = .ok (.aload_n 0, 1) := by decide +kernel
theorem dX4_prepare_162 : decode cX4_prepare 162 = .ok (.getfield 51, 3) := by decide +kernel
theorem dX4_prepare_165 : decode cX4_prepare 165 = .ok (.iload_n 2, 1) := by decide +kernel
theorem dX4_prepare_166 : decode cX4_prepare 166 = .ok (.iaload, 1) := by decide +kernel
theorem dX4_prepare_167 : decode cX4_prepare 167 = .ok (.aload_n 0, 1) := by decide +kernel
theorem dX4_prepare_168 : decode cX4_prepare 168 = .ok (.getfield 58, 3) := by decide +kernel
theorem dX4_prepare_171 : decode cX4_prepare 171 = .ok (.iload_n 1, 1) := by decide +kernel
theorem dX4_prepare_172 : decode cX4_prepare 172 = .ok (.iconst 1, 1) := by decide +kernel
theorem dX4_prepare_173 : decode cX4_prepare 173 = .ok (.isub, 1) := by decide +kernel
theorem dX4_prepare_174 : decode cX4_prepare 174 = .ok (.iaload, 1) := by decide +kernel
theorem dX4_prepare_175 : decode cX4_prepare 175 = .ok (.iand, 1) := by decide +kernel
theorem dX4_prepare_176 : decode cX4_prepare 176 = .ok (.ifCond .eq 9, 3) := by decide +kernel
theorem dX4_prepare_179 : decode cX4_prepare 179 = .ok (.iconst 1, 1) := by decide +kernel
theorem dX4_prepare_180 : decode cX4_prepare 180 = .ok (.iload_n 2, 1) := by decide +kernel
theorem dX4_prepare_181 : decode cX4_prepare 181 = .ok (.ishl, 1) := by decide +kernel
theorem dX4_prepare_182 : decode cX4_prepare 182 = .ok (.goto 4, 3) := by decide +kernel
theorem dX4_prepare_185 : decode cX4_prepare 185 = .ok (.iconst 0, 1) := by decide +kernel
theorem dX4_prepare_186 : decode cX4_prepare 186 = .ok (.ior, 1) := by decide +kernel
theorem dX4_prepare_187 : decode cX4_prepare 187 = .ok (.iastore, 1) := by decide +kernel
theorem dX4_prepare_188 : decode cX4_prepare 188 = .ok (.iinc 2 1, 3) := by decide +kernel
theorem dX4_prepare_191 : decode cX4_prepare 191 = .ok (.goto (-48), 3) := by decide +kernel
theorem dX4_prepare_194 : decode cX4_prepare 194 = .ok (.iinc 1 1, 3) := by decide +kernel
theorem dX4_prepare_197 : decode cX4_prepare 197 = .ok (.goto (-62), 3) := by decide +kernel
theorem dX4_prepare_200 : decode cX4_prepare 200 = .ok (.return_, 1) := by decide +kernel
theorem dX4_chainsOf_0 : decode cX4_chainsOf 0 = .ok (.aload_n 0, 1) := by decide +kernel
theorem dX4_chainsOf_1 : decode cX4_chainsOf 1 = .ok (.invokevirtual 72, 3) := by decide +kernel
theorem dX4_chainsOf_4 : decode cX4_chainsOf 4 = .ok (.aload_n 0, 1) := by decide +kernel
theorem dX4_chainsOf_5 : decode cX4_chainsOf 5 = .ok (.getfield 19, 3) := by decide +kernel
theorem dX4_chainsOf_8 : decode cX4_chainsOf 8 = .ok (.iload_n 1, 1) := by decide +kernel
theorem dX4_chainsOf_9 : decode cX4_chainsOf 9 = .ok (.invokevirtual 38, 3) := by decide +kernel
theorem dX4_chainsOf_12 : decode cX4_chainsOf 12 = .ok (.ifnull 15, 3) := by decide +kernel
theorem dX4_chainsOf_15 : decode cX4_chainsOf 15 = .ok (.aload_n 0, 1) := by decide +kernel
theorem dX4_chainsOf_16 : decode cX4_chainsOf 16 = .ok (.getfield 19, 3) := by decide +kernel
theorem dX4_chainsOf_19 : decode cX4_chainsOf 19 = .ok (.iload_n 1, 1) := by decide +kernel
theorem dX4_chainsOf_20 : decode cX4_chainsOf 20 = .ok (.invokevirtual 38, 3) := by decide +kernel
theorem dX4_chainsOf_23 : decode cX4_chainsOf 23 = .ok (.checkcast 7, 3) := by decide +kernel
theorem dX4_chainsOf_26 : decode cX4_chainsOf 26 = .ok (.areturn, 1) := by decide +kernel
theorem dX4_chainsOf_27 : decode cX4_chainsOf 27 = .ok (.new 7, 3) := by decide +kernel
theorem dX4_chainsOf_30 : decode cX4_chainsOf 30 = .ok (.dup, 1) := by decide +kernel
theorem dX4_chainsOf_31 : decode cX4_chainsOf 31 = .ok (.invokespecial 9, 3) := by decide +kernel
theorem dX4_chainsOf_34 : decode cX4_chainsOf 34 = .ok (.astore_n 2, 1) := by decide +kernel
theorem dX4_chainsOf_35 : decode cX4_chainsOf 35 = .ok (.bipush 6, 2) := by decide +kernel
theorem dX4_chainsOf_37 : decode cX4_chainsOf 37 = .ok (.newarray .int, 2) := by decide +kernel
theorem dX4_chainsOf_39 : decode cX4_chainsOf 39 = .ok (.astore_n 3, 1) := by decide +kernel
theorem dX4_chainsOf_40 : decode cX4_chainsOf 40 = .ok (.aload_n 3, 1) := by decide +kernel
theorem dX4_chainsOf_41 : decode cX4_chainsOf 41 = .ok (.iconst 0, 1) := by decide +kernel
theorem dX4_chainsOf_42 : decode cX4_chainsOf 42 = .ok (.iload_n 1, 1) := by decide +kernel
theorem dX4_chainsOf_43 : decode cX4_chainsOf 43 = .ok (.iastore, 1) := by decide +kernel
theorem dX4_chainsOf_44 : decode cX4_chainsOf 44 = .ok (.iconst 1, 1) := by decide +kernel
theorem dX4_chainsOf_45 : decode cX4_chainsOf 45 = .ok (.istore 4, 2) := by decide +kernel
theorem dX4_chainsOf_47 : decode cX4_chainsOf 47 = .ok (.iload 4, 2) := by decide +kernel
theorem dX4_chainsOf_49 : decode cX4_chainsOf 49 = .ok (.bipush 6, 2) := by decide +kernel
theorem dX4_chainsOf_51 : decode cX4_chainsOf 51 = .ok (.if_icmp .gt 21, 3) := by decide +kernel
theorem dX4_chainsOf_54 : decode cX4_chainsOf 54 = .ok (.aload_n 0, 1) := by decide +kernel
theorem dX4_chainsOf_55 : decode cX4_chainsOf 55 = .ok (.aload_n 2, 1) := by decide +kernel
theorem dX4_chainsOf_56 : decode cX4_chainsOf 56 = .ok (.aload_n 3, 1) := by decide +kernel
theorem dX4_chainsOf_57 : decode cX4_chainsOf 57 = .ok (.iconst 0, 1) := by decide +kernel
theorem dX4_chainsOf_58 : decode cX4_chainsOf 58 = .ok (.iconst 1, 1) := by decide +kernel
theorem dX4_chainsOf_59 : decode cX4_chainsOf 59 = .ok (.iload_n 1, 1) := by decide +kernel
theorem dX4_chainsOf_60 : decode cX4_chainsOf 60 = .ok (.ishl, 1) := by decide +kernel
theorem dX4_chainsOf_61 : decode cX4_chainsOf 61 = .ok (.iload 4, 2) := by decide +kernel
theorem dX4_chainsOf_63 : decode cX4_chainsOf 63 = .ok (.invokevirtual 75, 3) := by decide +kernel
theorem dX4_chainsOf_66 : decode cX4_chainsOf 66 = .ok (.iinc 4 1, 3) := by decide +kernel
theorem dX4_chainsOf_69 : decode cX4_chainsOf 69 = .ok (.goto (-22), 3) := by decide +kernel
theorem dX4_chainsOf_72 : decode cX4_chainsOf 72 = .ok (.aload_n 0, 1) := by decide +kernel
theorem dX4_chainsOf_73 : decode cX4_chainsOf 73 = .ok (.getfield 19, 3) := by decide +kernel
theorem dX4_chainsOf_76 : decode cX4_chainsOf 76 = .ok (.iload_n 1, 1) := by decide +kernel
theorem dX4_chainsOf_77 : decode cX4_chainsOf 77 = .ok (.aload_n 2, 1) := by decide +kernel
theorem dX4_chainsOf_78 : decode cX4_chainsOf 78 = .ok (.invokevirtual 79, 3) := by decide +kernel
theorem dX4_chainsOf_81 : decode cX4_chainsOf 81 = .ok (.pop, 1) := by decide +kernel
theorem dX4_chainsOf_82 : decode cX4_chainsOf 82 = .ok (.aload_n 2, 1) := by decide +kernel
theorem dX4_chainsOf_83 : decode cX4_chainsOf 83 = .ok (.areturn, 1) := by decide +kernel
theorem dX4_go_0 : decode cX4_go 0 = .ok (.aload_n 1, 1) := by decide +kernel
theorem dX4_go_1 : decode cX4_go 1 = .ok (.invokevirtual 54, 3) := by decide +kernel
theorem dX4_go_4 : decode cX4_go 4 = .ok (.bipush 60, 2) := by decide +kernel
theorem dX4_go_6 : decode cX4_go 6 = .ok (.if_icmp .eq 23, 3) := by decide +kernel
theorem dX4_go_9 : decode cX4_go 9 = .ok (.aload_n 0, 1) := by decide +kernel
theorem dX4_go_10 : decode cX4_go 10 = .ok (.getfield 58, 3) := by decide +kernel
theorem dX4_go_13 : decode cX4_go 13 = .ok (.iload 5, 2) := by decide +kernel
theorem dX4_go_15 : decode cX4_go 15 = .ok (.iconst 1, 1) := by decide +kernel
theorem dX4_go_16 : decode cX4_go 16 = .ok (.isub, 1) := by decide +kernel
theorem dX4_go_17 : decode cX4_go 17 = .ok (.iload_n 3, 1) := by decide +kernel
theorem dX4_go_18 : decode cX4_go 18 = .ok (.isub, 1) := by decide +kernel
theorem dX4_go_19 : decode cX4_go 19 = .ok (.iaload, 1) := by decide +kernel
theorem dX4_go_20 : decode cX4_go 20 = .ok (.aload_n 2, 1) := by decide +kernel
theorem dX4_go_21 : decode cX4_go 21 = .ok (.iload_n 3, 1) := by decide +kernel
theorem dX4_go_22 : decode cX4_go 22 = .ok (.iaload, 1) := by decide +kernel
theorem dX4_go_23 : decode cX4_go 23 = .ok (.ishr, 1) := by decide +kernel
theorem dX4_go_24 : decode cX4_go 24 = .ok (.iconst 1, 1) := by decide +kernel
theorem dX4_go_25 : decode cX4_go 25 = .ok (.iand, 1) := by decide +kernel
theorem dX4_go_26 : decode cX4_go 26 = .ok (.ifCond .ne 4, 3) := by decide +kernel
theorem dX4_go_29 : decode cX4_go 29 = .ok (.return_, 1) := by decide +kernel
theorem dX4_go_30 : decode cX4_go 30 = .ok (.iload_n 3, 1) := by decide +kernel
theorem dX4_go_31 : decode cX4_go 31 = .ok (.iload 5, 2) := by decide +kernel
theorem dX4_go_33 : decode cX4_go 33 = .ok (.iconst 1, 1) := by decide +kernel
theorem dX4_go_34 : decode cX4_go 34 = .ok (.isub, 1) := by decide +kernel
theorem dX4_go_35 : decode cX4_go 35 = .ok (.if_icmp .ne 27, 3) := by decide +kernel
theorem dX4_go_38 : decode cX4_go 38 = .ok (.iload 5, 2) := by decide +kernel
theorem dX4_go_40 : decode cX4_go 40 = .ok (.newarray .int, 2) := by decide +kernel
theorem dX4_go_42 : decode cX4_go 42 = .ok (.astore 6, 2) := by decide +kernel
theorem dX4_go_44 : decode cX4_go 44 = .ok (.aload_n 2, 1) := by decide +kernel
theorem dX4_go_45 : decode cX4_go 45 = .ok (.iconst 0, 1) := by decide +kernel
theorem dX4_go_46 : decode cX4_go 46 = .ok (.aload 6, 2) := by decide +kernel
theorem dX4_go_48 : decode cX4_go 48 = .ok (.iconst 0, 1) := by decide +kernel
theorem dX4_go_49 : decode cX4_go 49 = .ok (.iload 5, 2) := by decide +kernel
theorem dX4_go_51 : decode cX4_go 51 = .ok (.invokestatic 83, 3) := by decide +kernel
theorem dX4_go_54 : decode cX4_go 54 = .ok (.aload_n 1, 1) := by decide +kernel
theorem dX4_go_55 : decode cX4_go 55 = .ok (.aload 6, 2) := by decide +kernel
theorem dX4_go_57 : decode cX4_go 57 = .ok (.invokevirtual 68, 3) := by decide +kernel
theorem dX4_go_60 : decode cX4_go 60 = .ok (.pop, 1) := by decide +kernel
theorem dX4_go_61 : decode cX4_go 61 = .ok (.return_, 1) := by decide +kernel
theorem dX4_go_62 : decode cX4_go 62 = .ok (.aload_n 0, 1) := by decide +kernel
theorem dX4_go_63 : decode cX4_go 63 = .ok (.getfield 58, 3) := by decide +kernel
theorem dX4_go_66 : decode cX4_go 66 = .ok (.iconst 0, 1) := by decide +kernel
theorem dX4_go_67 : decode cX4_go 67 = .ok (.iaload, 1) := by decide +kernel
theorem dX4_go_68 : decode cX4_go 68 = .ok (.iload 4, 2) := by decide +kernel
theorem dX4_go_70 : decode cX4_go 70 = .ok (.iconst (-1), 1) := by decide +kernel
theorem dX4_go_71 : decode cX4_go 71 = .ok (.ixor, 1) := by decide +kernel
theorem dX4_go_72 : decode cX4_go 72 = .ok (.iand, 1) := by decide +kernel
theorem dX4_go_73 : decode cX4_go 73 = .ok (.ifCond .ne 4, 3) := by decide +kernel
theorem dX4_go_76 : decode cX4_go 76 = .ok (.return_, 1) := by decide +kernel
theorem dX4_go_77 : decode cX4_go 77 = .ok (.aload_n 0, 1) := by decide +kernel
theorem dX4_go_78 : decode cX4_go 78 = .ok (.getfield 51, 3) := by decide +kernel
theorem dX4_go_81 : decode cX4_go 81 = .ok (.aload_n 2, 1) := by decide +kernel
theorem dX4_go_82 : decode cX4_go 82 = .ok (.iload_n 3, 1) := by decide +kernel
theorem dX4_go_83 : decode cX4_go 83 = .ok (.iaload, 1) := by decide +kernel
theorem dX4_go_84 : decode cX4_go 84 = .ok (.iaload, 1) := by decide +kernel
theorem dX4_go_85 : decode cX4_go 85 = .ok (.iload 4, 2) := by decide +kernel
theorem dX4_go_87 : decode cX4_go 87 = .ok (.iconst (-1), 1) := by decide +kernel
theorem dX4_go_88 : decode cX4_go 88 = .ok (.ixor, 1) := by decide +kernel
theorem dX4_go_89 : decode cX4_go 89 = .ok (.iand, 1) := by decide +kernel
theorem dX4_go_90 : decode cX4_go 90 = .ok (.istore 6, 2) := by decide +kernel
theorem dX4_go_92 : decode cX4_go 92 = .ok (.iconst 0, 1) := by decide +kernel
theorem dX4_go_93 : decode cX4_go 93 = .ok (.istore 7, 2) := by decide +kernel
theorem dX4_go_95 : decode cX4_go 95 = .ok (.iload 6, 2) := by decide +kernel
theorem dX4_go_97 : decode cX4_go 97 = .ok (.iload 7, 2) := by decide +kernel
theorem dX4_go_99 : decode cX4_go 99 = .ok (.ishr, 1) := by decide +kernel
theorem dX4_go_100 : decode cX4_go 100 = .ok (.ifCond .le 47, 3) := by decide +kernel
theorem dX4_go_103 : decode cX4_go 103 = .ok (.iload 6, 2) := by decide +kernel
theorem dX4_go_105 : decode cX4_go 105 = .ok (.iload 7, 2) := by decide +kernel
theorem dX4_go_107 : decode cX4_go 107 = .ok (.ishr, 1) := by decide +kernel
theorem dX4_go_108 : decode cX4_go 108 = .ok (.iconst 1, 1) := by decide +kernel
theorem dX4_go_109 : decode cX4_go 109 = .ok (.iand, 1) := by decide +kernel
theorem dX4_go_110 : decode cX4_go 110 = .ok (.ifCond .ne 6, 3) := by decide +kernel
theorem dX4_go_113 : decode cX4_go 113 = .ok (.goto 28, 3) := by decide +kernel
theorem dX4_go_116 : decode cX4_go 116 = .ok (.aload_n 2, 1) := by decide +kernel
theorem dX4_go_117 : decode cX4_go 117 = .ok (.iload_n 3, 1) := by decide +kernel
theorem dX4_go_118 : decode cX4_go 118 = .ok (.iconst 1, 1) := by decide +kernel
theorem dX4_go_119 : decode cX4_go 119 = .ok (.iadd, 1) := by decide +kernel
theorem dX4_go_120 : decode cX4_go 120 = .ok (.iload 7, 2) := by decide +kernel
theorem dX4_go_122 : decode cX4_go 122 = .ok (.iastore, 1) := by decide +kernel
theorem dX4_go_123 : decode cX4_go 123 = .ok (.aload_n 0, 1) := by decide +kernel
theorem dX4_go_124 : decode cX4_go 124 = .ok (.aload_n 1, 1) := by decide +kernel
theorem dX4_go_125 : decode cX4_go 125 = .ok (.aload_n 2, 1) := by decide +kernel
theorem dX4_go_126 : decode cX4_go 126 = .ok (.iload_n 3, 1) := by decide +kernel
theorem dX4_go_127 : decode cX4_go 127 = .ok (.iconst 1, 1) := by decide +kernel
theorem dX4_go_128 : decode cX4_go 128 = .ok (.iadd, 1) := by decide +kernel
theorem dX4_go_129 : decode cX4_go 129 = .ok (.iload 4, 2) := by decide +kernel
theorem dX4_go_131 : decode cX4_go 131 = .ok (.iconst 1, 1) := by decide +kernel
theorem dX4_go_132 : decode cX4_go 132 = .ok (.iload 7, 2) := by decide +kernel
theorem dX4_go_134 : decode cX4_go 134 = .ok (.ishl, 1) := by decide +kernel
theorem dX4_go_135 : decode cX4_go 135 = .ok (.ior, 1) := by decide +kernel
theorem dX4_go_136 : decode cX4_go 136 = .ok (.iload 5, 2) := by decide +kernel
theorem dX4_go_138 : decode cX4_go 138 = .ok (.invokevirtual 75, 3) := by decide +kernel
theorem dX4_go_141 : decode cX4_go 141 = .ok (.iinc 7 1, 3) := by decide +kernel
theorem dX4_go_144 : decode cX4_go 144 = .ok (.goto (-49), 3) := by decide +kernel
theorem dX4_go_147 : decode cX4_go 147 = .ok (.return_, 1) := by decide +kernel
theorem dX4_isCalledBack_0 : decode cX4_isCalledBack 0 = .ok (.aload_n 1, 1) := by decide +kernel
theorem dX4_isCalledBack_1 : decode cX4_isCalledBack 1 = .ok (.bipush 12, 2) := by decide +kernel
theorem dX4_isCalledBack_3 : decode cX4_isCalledBack 3 = .ok (.iaload, 1) := by decide +kernel
theorem dX4_isCalledBack_4 : decode cX4_isCalledBack 4 = .ok (.iconst 1, 1) := by decide +kernel
theorem dX4_isCalledBack_5 : decode cX4_isCalledBack 5 = .ok (.if_icmp .ne 5, 3) := by decide +kernel
theorem dX4_isCalledBack_8 : decode cX4_isCalledBack 8 = .ok (.iconst 0, 1) := by decide +kernel
theorem dX4_isCalledBack_9 : decode cX4_isCalledBack 9 = .ok (.ireturn, 1) := by decide +kernel
theorem dX4_isCalledBack_10 : decode cX4_isCalledBack 10 = .ok (.aconst_null, 1) := by decide +kernel
theorem dX4_isCalledBack_11 : decode cX4_isCalledBack 11 = .ok (.astore 4, 2) := by decide +kernel
theorem dX4_isCalledBack_13 : decode cX4_isCalledBack 13 = .ok (.aload_n 0, 1) := by decide +kernel
theorem dX4_isCalledBack_14 : decode cX4_isCalledBack 14 = .ok (.getfield 16, 3) := by decide +kernel
theorem dX4_isCalledBack_17 : decode cX4_isCalledBack 17 = .ok (.invokevirtual 89, 3) := by decide +kernel
theorem dX4_isCalledBack_20 : decode cX4_isCalledBack 20 = .ok (.astore 5, 2) := by decide +kernel
theorem dX4_isCalledBack_22 : decode cX4_isCalledBack 22 = .ok (.aload 5, 2) := by decide +kernel
theorem dX4_isCalledBack_24 : decode cX4_isCalledBack 24 = .ok (.invokeinterface 93 1, 5) := by decide +kernel
theorem dX4_isCalledBack_29 : decode cX4_isCalledBack 29 = .ok (.ifCond .eq 75, 3) := by decide +kernel
theorem dX4_isCalledBack_32 : decode cX4_isCalledBack 32 = .ok (.aload 5, 2) := by decide +kernel
theorem dX4_isCalledBack_34 : decode cX4_isCalledBack 34 = .ok (.invokeinterface 99 1, 5) := by decide +kernel
theorem dX4_isCalledBack_39 : decode cX4_isCalledBack 39 = .ok (.checkcast 42, 3) := by decide +kernel
theorem dX4_isCalledBack_42 : decode cX4_isCalledBack 42 = .ok (.astore 6, 2) := by decide +kernel
theorem dX4_isCalledBack_44 : decode cX4_isCalledBack 44 = .ok (.aload 6, 2) := by decide +kernel
theorem dX4_isCalledBack_46 : decode cX4_isCalledBack 46 = .ok (.iconst 0, 1) := by decide +kernel
theorem dX4_isCalledBack_47 : decode cX4_isCalledBack 47 = .ok (.iaload, 1) := by decide +kernel
theorem dX4_isCalledBack_48 : decode cX4_isCalledBack 48 = .ok (.aload_n 1, 1) := by decide +kernel
theorem dX4_isCalledBack_49 : decode cX4_isCalledBack 49 = .ok (.iconst 1, 1) := by decide +kernel
theorem dX4_isCalledBack_50 : decode cX4_isCalledBack 50 = .ok (.iaload, 1) := by decide +kernel
theorem dX4_isCalledBack_51 : decode cX4_isCalledBack 51 = .ok (.if_icmp .ne (-29), 3) := by decide +kernel
theorem dX4_isCalledBack_54 : decode cX4_isCalledBack 54 = .ok (.aload 6, 2) := by decide +kernel
theorem dX4_isCalledBack_56 : decode cX4_isCalledBack 56 = .ok (.iconst 1, 1) := by decide +kernel
theorem dX4_isCalledBack_57 : decode cX4_isCalledBack 57 = .ok (.iaload, 1) := by decide +kernel
theorem dX4_isCalledBack_58 : decode cX4_isCalledBack 58 = .ok (.iload_n 3, 1) := by decide +kernel
theorem dX4_isCalledBack_59 : decode cX4_isCalledBack 59 = .ok (.if_icmp .gt (-37), 3) := by decide +kernel
theorem dX4_isCalledBack_62 : decode cX4_isCalledBack 62 = .ok (.iload_n 2, 1) := by decide +kernel
theorem dX4_isCalledBack_63 : decode cX4_isCalledBack 63 = .ok (.aload 6, 2) := by decide +kernel
theorem dX4_isCalledBack_65 : decode cX4_isCalledBack 65 = .ok (.invokestatic 103, 3) := by decide +kernel
theorem dX4_isCalledBack_68 : decode cX4_isCalledBack 68 = .ok (.invokestatic 47, 3) := by decide +kernel
theorem dX4_isCalledBack_71 : decode cX4_isCalledBack 71 = .ok (.aload 6, 2) := by decide +kernel
theorem dX4_isCalledBack_73 : decode cX4_isCalledBack 73 = .ok (.iconst 4, 1) := by decide +kernel
theorem dX4_isCalledBack_74 : decode cX4_isCalledBack 74 = .ok (.iaload, 1) := by decide +kernel
theorem dX4_isCalledBack_75 : decode cX4_isCalledBack 75 = .ok (.if_icmp .eq 6, 3) := by decide +kernel
theorem dX4_isCalledBack_78 : decode cX4_isCalledBack 78 = .ok (.goto (-56), 3) := by decide +kernel
theorem dX4_isCalledBack_81 : decode cX4_isCalledBack 81 = .ok (.aload 4, 2) := by decide +kernel
theorem dX4_isCalledBack_83 : decode cX4_isCalledBack 83 = .ok (.ifnull 14, 3) := by decide +kernel
theorem dX4_isCalledBack_86 : decode cX4_isCalledBack 86 = .ok (.aload 6, 2) := by decide +kernel
theorem dX4_isCalledBack_88 : decode cX4_isCalledBack 88 = .ok (.iconst 1, 1) := by decide +kernel
theorem dX4_isCalledBack_89 : decode cX4_isCalledBack 89 = .ok (.iaload, 1) := by decide +kernel
theorem dX4_isCalledBack_90 : decode cX4_isCalledBack 90 = .ok (.aload 4, 2) := by decide +kernel
theorem dX4_isCalledBack_92 : decode cX4_isCalledBack 92 = .ok (.iconst 1, 1) := by decide +kernel
theorem dX4_isCalledBack_93 : decode cX4_isCalledBack 93 = .ok (.iaload, 1) := by decide +kernel
theorem dX4_isCalledBack_94 : decode cX4_isCalledBack 94 = .ok (.if_icmp .lt 7, 3) := by decide +kernel
theorem dX4_isCalledBack_97 : decode cX4_isCalledBack 97 = .ok (.aload 6, 2) := by decide +kernel
theorem dX4_isCalledBack_99 : decode cX4_isCalledBack 99 = .ok (.astore 4, 2) := by decide +kernel
theorem dX4_isCalledBack_101 : decode cX4_isCalledBack 101 = .ok (.goto (-79), 3) := by decide +kernel
theorem dX4_isCalledBack_104 : decode cX4_isCalledBack 104 = .ok (.aload 4, 2) := by decide +kernel
theorem dX4_isCalledBack_106 : decode cX4_isCalledBack 106 = .ok (.ifnonnull 8, 3) := by decide +kernel
theorem dX4_isCalledBack_109 : decode cX4_isCalledBack 109 = .ok (.aload_n 0, 1) := by decide +kernel
theorem dX4_isCalledBack_110 : decode cX4_isCalledBack 110 = .ok (.getfield 106, 3) := by decide +kernel
theorem dX4_isCalledBack_113 : decode cX4_isCalledBack 113 = .ok (.ireturn, 1) := by decide +kernel
theorem dX4_isCalledBack_114 : decode cX4_isCalledBack 114 = .ok (.aload 4, 2) := by decide +kernel
theorem dX4_isCalledBack_116 : decode cX4_isCalledBack 116 = .ok (.iconst 3, 1) := by decide +kernel
theorem dX4_isCalledBack_117 : decode cX4_isCalledBack 117 = .ok (.iaload, 1) := by decide +kernel
theorem dX4_isCalledBack_118 : decode cX4_isCalledBack 118 = .ok (.aload_n 1, 1) := by decide +kernel
theorem dX4_isCalledBack_119 : decode cX4_isCalledBack 119 = .ok (.iconst 3, 1) := by decide +kernel
theorem dX4_isCalledBack_120 : decode cX4_isCalledBack 120 = .ok (.iaload, 1) := by decide +kernel
theorem dX4_isCalledBack_121 : decode cX4_isCalledBack 121 = .ok (.ishr, 1) := by decide +kernel
theorem dX4_isCalledBack_122 : decode cX4_isCalledBack 122 = .ok (.iconst 1, 1) := by decide +kernel
theorem dX4_isCalledBack_123 : decode cX4_isCalledBack 123 = .ok (.iand, 1) := by decide +kernel
theorem dX4_isCalledBack_124 : decode cX4_isCalledBack 124 = .ok (.iconst 1, 1) := by decide +kernel
theorem dX4_isCalledBack_125 : decode cX4_isCalledBack 125 = .ok (.if_icmp .eq 18, 3) := by decide +kernel
theorem dX4_isCalledBack_128 : decode cX4_isCalledBack 128 = .ok (.aload_n 0, 1) := by decide +kernel
theorem dX4_isCalledBack_129 : decode cX4_isCalledBack 129 = .ok (.getfield 106, 3) := by decide +kernel
theorem dX4_isCalledBack_132 : decode cX4_isCalledBack 132 = .ok (.ifCond .eq 15, 3) := by decide +kernel
theorem dX4_isCalledBack_135 : decode cX4_isCalledBack 135 = .ok (.iload_n 3, 1) := by decide +kernel
theorem dX4_isCalledBack_136 : decode cX4_isCalledBack 136 = .ok (.aload 4, 2) := by decide +kernel
theorem dX4_isCalledBack_138 : decode cX4_isCalledBack 138 = .ok (.iconst 2, 1) := by decide +kernel
theorem dX4_isCalledBack_139 : decode cX4_isCalledBack 139 = .ok (.iaload, 1) := by decide +kernel
theorem dX4_isCalledBack_140 : decode cX4_isCalledBack 140 = .ok (.if_icmp .le 7, 3) := by decide +kernel
theorem dX4_isCalledBack_143 : decode cX4_isCalledBack 143 = .ok (.iconst 1, 1) := by decide +kernel
theorem dX4_isCalledBack_144 : decode cX4_isCalledBack 144 = .ok (.goto 4, 3) := by decide +kernel
theorem dX4_isCalledBack_147 : decode cX4_isCalledBack 147 = .ok (.iconst 0, 1) := by decide +kernel
theorem dX4_isCalledBack_148 : decode cX4_isCalledBack 148 = .ok (.ireturn, 1) := by decide +kernel
theorem dX4_isOutOfBound_0 : decode cX4_isOutOfBound 0 = .ok (.iconst 0, 1) := by decide +kernel
theorem dX4_isOutOfBound_1 : decode cX4_isOutOfBound 1 = .ok (.istore_n 3, 1) := by decide +kernel
theorem dX4_isOutOfBound_2 : decode cX4_isOutOfBound 2 = .ok (.iload_n 3, 1) := by decide +kernel
theorem dX4_isOutOfBound_3 : decode cX4_isOutOfBound 3 = .ok (.iload_n 2, 1) := by decide +kernel
theorem dX4_isOutOfBound_4 : decode cX4_isOutOfBound 4 = .ok (.if_icmp .ge 48, 3) := by decide +kernel
theorem dX4_isOutOfBound_7 : decode cX4_isOutOfBound 7 = .ok (.aload_n 0, 1) := by decide +kernel
theorem dX4_isOutOfBound_8 : decode cX4_isOutOfBound 8 = .ok (.getfield 10, 3) := by decide +kernel
theorem dX4_isOutOfBound_11 : decode cX4_isOutOfBound 11 = .ok (.aload_n 1, 1) := by decide +kernel
theorem dX4_isOutOfBound_12 : decode cX4_isOutOfBound 12 = .ok (.iload_n 3, 1) := by decide +kernel
theorem dX4_isOutOfBound_13 : decode cX4_isOutOfBound 13 = .ok (.iaload, 1) := by decide +kernel
theorem dX4_isOutOfBound_14 : decode cX4_isOutOfBound 14 = .ok (.invokevirtual 38, 3) := by decide +kernel
theorem dX4_isOutOfBound_17 : decode cX4_isOutOfBound 17 = .ok (.checkcast 42, 3) := by decide +kernel
theorem dX4_isOutOfBound_20 : decode cX4_isOutOfBound 20 = .ok (.iconst 0, 1) := by decide +kernel
theorem dX4_isOutOfBound_21 : decode cX4_isOutOfBound 21 = .ok (.iaload, 1) := by decide +kernel
theorem dX4_isOutOfBound_22 : decode cX4_isOutOfBound 22 = .ok (.aload_n 0, 1) := by decide +kernel
theorem dX4_isOutOfBound_23 : decode cX4_isOutOfBound 23 = .ok (.getfield 10, 3) := by decide +kernel
theorem dX4_isOutOfBound_26 : decode cX4_isOutOfBound 26 = .ok (.aload_n 1, 1) := by decide +kernel
theorem dX4_isOutOfBound_27 : decode cX4_isOutOfBound 27 = .ok (.iload_n 2, 1) := by decide +kernel
theorem dX4_isOutOfBound_28 : decode cX4_isOutOfBound 28 = .ok (.iaload, 1) := by decide +kernel
theorem dX4_isOutOfBound_29 : decode cX4_isOutOfBound 29 = .ok (.invokevirtual 38, 3) := by decide +kernel
theorem dX4_isOutOfBound_32 : decode cX4_isOutOfBound 32 = .ok (.checkcast 42, 3) := by decide +kernel
theorem dX4_isOutOfBound_35 : decode cX4_isOutOfBound 35 = .ok (.bipush 9, 2) := by decide +kernel
theorem dX4_isOutOfBound_37 : decode cX4_isOutOfBound 37 = .ok (.iaload, 1) := by decide +kernel
theorem dX4_isOutOfBound_38 : decode cX4_isOutOfBound 38 = .ok (.invokestatic 110, 3) := by decide +kernel
theorem dX4_isOutOfBound_41 : decode cX4_isOutOfBound 41 = .ok (.ifCond .ne 5, 3) := by decide +kernel
theorem dX4_isOutOfBound_44 : decode cX4_isOutOfBound 44 = .ok (.iconst 1, 1) := by decide +kernel
theorem dX4_isOutOfBound_45 : decode cX4_isOutOfBound 45 = .ok (.ireturn, 1) := by decide +kernel
theorem dX4_isOutOfBound_46 : decode cX4_isOutOfBound 46 = .ok (.iinc 3 1, 3) := by decide +kernel
theorem dX4_isOutOfBound_49 : decode cX4_isOutOfBound 49 = .ok (.goto (-47), 3) := by decide +kernel
theorem dX4_isOutOfBound_52 : decode cX4_isOutOfBound 52 = .ok (.iconst 0, 1) := by decide +kernel
theorem dX4_isOutOfBound_53 : decode cX4_isOutOfBound 53 = .ok (.ireturn, 1) := by decide +kernel
theorem dX4_flaw_0 : decode cX4_flaw 0 = .ok (.aload_n 0, 1) := by decide +kernel
theorem dX4_flaw_1 : decode cX4_flaw 1 = .ok (.getfield 10, 3) := by decide +kernel
theorem dX4_flaw_4 : decode cX4_flaw 4 = .ok (.aload_n 1, 1) := by decide +kernel
theorem dX4_flaw_5 : decode cX4_flaw 5 = .ok (.iload_n 2, 1) := by decide +kernel
theorem dX4_flaw_6 : decode cX4_flaw 6 = .ok (.iaload, 1) := by decide +kernel
theorem dX4_flaw_7 : decode cX4_flaw 7 = .ok (.invokevirtual 38, 3) := by decide +kernel
theorem dX4_flaw_10 : decode cX4_flaw 10 = .ok (.checkcast 42, 3) := by decide +kernel
theorem dX4_flaw_13 : decode cX4_flaw 13 = .ok (.astore 5, 2) := by decide +kernel
theorem dX4_flaw_15 : decode cX4_flaw 15 = .ok (.iload_n 3, 1) := by decide +kernel
theorem dX4_flaw_16 : decode cX4_flaw 16 = .ok (.aload 5, 2) := by decide +kernel
theorem dX4_flaw_18 : decode cX4_flaw 18 = .ok (.iconst 4, 1) := by decide +kernel
theorem dX4_flaw_19 : decode cX4_flaw 19 = .ok (.iaload, 1) := by decide +kernel
theorem dX4_flaw_20 : decode cX4_flaw 20 = .ok (.if_icmp .ge 5, 3) := by decide +kernel
theorem dX4_flaw_23 : decode cX4_flaw 23 = .ok (.iconst 1, 1) := by decide +kernel
theorem dX4_flaw_24 : decode cX4_flaw 24 = .ok (.ireturn, 1) := by decide +kernel
theorem dX4_flaw_25 : decode cX4_flaw 25 = .ok (.iload_n 3, 1) := by decide +kernel
theorem dX4_flaw_26 : decode cX4_flaw 26 = .ok (.aload 5, 2) := by decide +kernel
theorem dX4_flaw_28 : decode cX4_flaw 28 = .ok (.iconst 5, 1) := by decide +kernel
theorem dX4_flaw_29 : decode cX4_flaw 29 = .ok (.iaload, 1) := by decide +kernel
theorem dX4_flaw_30 : decode cX4_flaw 30 = .ok (.if_icmp .le 5, 3) := by decide +kernel
theorem dX4_flaw_33 : decode cX4_flaw 33 = .ok (.iconst 2, 1) := by decide +kernel
theorem dX4_flaw_34 : decode cX4_flaw 34 = .ok (.ireturn, 1) := by decide +kernel
theorem dX4_flaw_35 : decode cX4_flaw 35 = .ok (.aload 5, 2) := by decide +kernel
theorem dX4_flaw_37 : decode cX4_flaw 37 = .ok (.bipush 8, 2) := by decide +kernel
theorem dX4_flaw_39 : decode cX4_flaw 39 = .ok (.iaload, 1) := by decide +kernel
theorem dX4_flaw_40 : decode cX4_flaw 40 = .ok (.iload 4, 2) := by decide +kernel
theorem dX4_flaw_42 : decode cX4_flaw 42 = .ok (.ishr, 1) := by decide +kernel
theorem dX4_flaw_43 : decode cX4_flaw 43 = .ok (.iconst 1, 1) := by decide +kernel
theorem dX4_flaw_44 : decode cX4_flaw 44 = .ok (.iand, 1) := by decide +kernel
theorem dX4_flaw_45 : decode cX4_flaw 45 = .ok (.ifCond .ne 5, 3) := by decide +kernel
theorem dX4_flaw_48 : decode cX4_flaw 48 = .ok (.iconst 3, 1) := by decide +kernel
theorem dX4_flaw_49 : decode cX4_flaw 49 = .ok (.ireturn, 1) := by decide +kernel
theorem dX4_flaw_50 : decode cX4_flaw 50 = .ok (.iload_n 2, 1) := by decide +kernel
theorem dX4_flaw_51 : decode cX4_flaw 51 = .ok (.ifCond .le 13, 3) := by decide +kernel
theorem dX4_flaw_54 : decode cX4_flaw 54 = .ok (.aload 5, 2) := by decide +kernel
theorem dX4_flaw_56 : decode cX4_flaw 56 = .ok (.bipush 6, 2) := by decide +kernel
theorem dX4_flaw_58 : decode cX4_flaw 58 = .ok (.iaload, 1) := by decide +kernel
theorem dX4_flaw_59 : decode cX4_flaw 59 = .ok (.ifCond .ne 5, 3) := by decide +kernel
theorem dX4_flaw_62 : decode cX4_flaw 62 = .ok (.iconst 4, 1) := by decide +kernel
theorem dX4_flaw_63 : decode cX4_flaw 63 = .ok (.ireturn, 1) := by decide +kernel
theorem dX4_flaw_64 : decode cX4_flaw 64 = .ok (.iload_n 2, 1) := by decide +kernel
theorem dX4_flaw_65 : decode cX4_flaw 65 = .ok (.ifCond .le 16, 3) := by decide +kernel
theorem dX4_flaw_68 : decode cX4_flaw 68 = .ok (.aload 5, 2) := by decide +kernel
theorem dX4_flaw_70 : decode cX4_flaw 70 = .ok (.bipush 7, 2) := by decide +kernel
theorem dX4_flaw_72 : decode cX4_flaw 72 = .ok (.iaload, 1) := by decide +kernel
theorem dX4_flaw_73 : decode cX4_flaw 73 = .ok (.iload_n 2, 1) := by decide +kernel
theorem dX4_flaw_74 : decode cX4_flaw 74 = .ok (.iconst 1, 1) := by decide +kernel
theorem dX4_flaw_75 : decode cX4_flaw 75 = .ok (.isub, 1) := by decide +kernel
theorem dX4_flaw_76 : decode cX4_flaw 76 = .ok (.if_icmp .ge 5, 3) := by decide +kernel
theorem dX4_flaw_79 : decode cX4_flaw 79 = .ok (.iconst 5, 1) := by decide +kernel
theorem dX4_flaw_80 : decode cX4_flaw 80 = .ok (.ireturn, 1) := by decide +kernel
theorem dX4_flaw_81 : decode cX4_flaw 81 = .ok (.aload_n 0, 1) := by decide +kernel
theorem dX4_flaw_82 : decode cX4_flaw 82 = .ok (.aload_n 1, 1) := by decide +kernel
theorem dX4_flaw_83 : decode cX4_flaw 83 = .ok (.iload_n 2, 1) := by decide +kernel
theorem dX4_flaw_84 : decode cX4_flaw 84 = .ok (.invokevirtual 113, 3) := by decide +kernel
theorem dX4_flaw_87 : decode cX4_flaw 87 = .ok (.ifCond .eq 6, 3) := by decide +kernel
theorem dX4_flaw_90 : decode cX4_flaw 90 = .ok (.bipush 6, 2) := by decide +kernel
theorem dX4_flaw_92 : decode cX4_flaw 92 = .ok (.ireturn, 1) := by decide +kernel
theorem dX4_flaw_93 : decode cX4_flaw 93 = .ok (.iload_n 2, 1) := by decide +kernel
theorem dX4_flaw_94 : decode cX4_flaw 94 = .ok (.iconst 1, 1) := by decide +kernel
theorem dX4_flaw_95 : decode cX4_flaw 95 = .ok (.iadd, 1) := by decide +kernel
theorem dX4_flaw_96 : decode cX4_flaw 96 = .ok (.aload_n 1, 1) := by decide +kernel
theorem dX4_flaw_97 : decode cX4_flaw 97 = .ok (.arraylength, 1) := by decide +kernel
theorem dX4_flaw_98 : decode cX4_flaw 98 = .ok (.if_icmp .ge 23, 3) := by decide +kernel
theorem dX4_flaw_101 : decode cX4_flaw 101 = .ok (.aload_n 0, 1) := by decide +kernel
theorem dX4_flaw_102 : decode cX4_flaw 102 = .ok (.getfield 10, 3) := by decide +kernel
theorem dX4_flaw_105 : decode cX4_flaw 105 = .ok (.aload_n 1, 1) := by decide +kernel
theorem dX4_flaw_106 : decode cX4_flaw 106 = .ok (.iload_n 2, 1) := by decide +kernel
theorem dX4_flaw_107 : decode cX4_flaw 107 = .ok (.iconst 1, 1) := by decide +kernel
theorem dX4_flaw_108 : decode cX4_flaw 108 = .ok (.iadd, 1) := by decide +kernel
theorem dX4_flaw_109 : decode cX4_flaw 109 = .ok (.iaload, 1) := by decide +kernel
theorem dX4_flaw_110 : decode cX4_flaw 110 = .ok (.invokevirtual 38, 3) := by decide +kernel
theorem dX4_flaw_113 : decode cX4_flaw 113 = .ok (.checkcast 42, 3) := by decide +kernel
theorem dX4_flaw_116 : decode cX4_flaw 116 = .ok (.iconst 2, 1) := by decide +kernel
theorem dX4_flaw_117 : decode cX4_flaw 117 = .ok (.iaload, 1) := by decide +kernel
theorem dX4_flaw_118 : decode cX4_flaw 118 = .ok (.goto 4, 3) := by decide +kernel
theorem dX4_flaw_121 : decode cX4_flaw 121 = .ok (.iconst 0, 1) := by decide +kernel
theorem dX4_flaw_122 : decode cX4_flaw 122 = .ok (.istore 6, 2) := by decide +kernel
theorem dX4_flaw_124 : decode cX4_flaw 124 = .ok (.aload_n 0, 1) := by decide +kernel
theorem dX4_flaw_125 : decode cX4_flaw 125 = .ok (.aload 5, 2) := by decide +kernel
theorem dX4_flaw_127 : decode cX4_flaw 127 = .ok (.iload 6, 2) := by decide +kernel
theorem dX4_flaw_129 : decode cX4_flaw 129 = .ok (.iload_n 3, 1) := by decide +kernel
theorem dX4_flaw_130 : decode cX4_flaw 130 = .ok (.invokevirtual 117, 3) := by decide +kernel
theorem dX4_flaw_133 : decode cX4_flaw 133 = .ok (.ifCond .eq 8, 3) := by decide +kernel
theorem dX4_flaw_136 : decode cX4_flaw 136 = .ok (.bipush 7, 2) := by decide +kernel
theorem dX4_flaw_138 : decode cX4_flaw 138 = .ok (.goto 4, 3) := by decide +kernel
theorem dX4_flaw_141 : decode cX4_flaw 141 = .ok (.iconst 0, 1) := by decide +kernel
theorem dX4_flaw_142 : decode cX4_flaw 142 = .ok (.ireturn, 1) := by decide +kernel
theorem dX4_flawed_0 : decode cX4_flawed 0 = .ok (.iconst 0, 1) := by decide +kernel
theorem dX4_flawed_1 : decode cX4_flawed 1 = .ok (.istore 4, 2) := by decide +kernel
theorem dX4_flawed_3 : decode cX4_flawed 3 = .ok (.iload 4, 2) := by decide +kernel
theorem dX4_flawed_5 : decode cX4_flawed 5 = .ok (.aload_n 1, 1) := by decide +kernel
theorem dX4_flawed_6 : decode cX4_flawed 6 = .ok (.arraylength, 1) := by decide +kernel
theorem dX4_flawed_7 : decode cX4_flawed 7 = .ok (.if_icmp .ge 24, 3) := by decide +kernel
theorem dX4_flawed_10 : decode cX4_flawed 10 = .ok (.aload_n 0, 1) := by decide +kernel
theorem dX4_flawed_11 : decode cX4_flawed 11 = .ok (.aload_n 1, 1) := by decide +kernel
theorem dX4_flawed_12 : decode cX4_flawed 12 = .ok (.iload 4, 2) := by decide +kernel
theorem dX4_flawed_14 : decode cX4_flawed 14 = .ok (.iload_n 2, 1) := by decide +kernel
theorem dX4_flawed_15 : decode cX4_flawed 15 = .ok (.iload_n 3, 1) := by decide +kernel
theorem dX4_flawed_16 : decode cX4_flawed 16 = .ok (.invokevirtual 121, 3) := by decide +kernel
theorem dX4_flawed_19 : decode cX4_flawed 19 = .ok (.ifCond .le 6, 3) := by decide +kernel
theorem dX4_flawed_22 : decode cX4_flawed 22 = .ok (.iload 4, 2) := by decide +kernel
theorem dX4_flawed_24 : decode cX4_flawed 24 = .ok (.ireturn, 1) := by decide +kernel
theorem dX4_flawed_25 : decode cX4_flawed 25 = .ok (.iinc 4 1, 3) := by decide +kernel
theorem dX4_flawed_28 : decode cX4_flawed 28 = .ok (.goto (-25), 3) := by decide +kernel
theorem dX4_flawed_31 : decode cX4_flawed 31 = .ok (.iconst (-1), 1) := by decide +kernel
theorem dX4_flawed_32 : decode cX4_flawed 32 = .ok (.ireturn, 1) := by decide +kernel
theorem dX4_holding_0 : decode cX4_holding 0 = .ok (.aload_n 0, 1) := by decide +kernel
theorem dX4_holding_1 : decode cX4_holding 1 = .ok (.iload_n 1, 1) := by decide +kernel
theorem dX4_holding_2 : decode cX4_holding 2 = .ok (.invokevirtual 125, 3) := by decide +kernel
theorem dX4_holding_5 : decode cX4_holding 5 = .ok (.invokevirtual 89, 3) := by decide +kernel
theorem dX4_holding_8 : decode cX4_holding 8 = .ok (.astore 4, 2) := by decide +kernel
theorem dX4_holding_10 : decode cX4_holding 10 = .ok (.aload 4, 2) := by decide +kernel
theorem dX4_holding_12 : decode cX4_holding 12 = .ok (.invokeinterface 93 1, 5) := by decide +kernel
theorem dX4_holding_17 : decode cX4_holding 17 = .ok (.ifCond .eq 33, 3) := by decide +kernel
theorem dX4_holding_20 : decode cX4_holding 20 = .ok (.aload 4, 2) := by decide +kernel
theorem dX4_holding_22 : decode cX4_holding 22 = .ok (.invokeinterface 99 1, 5) := by decide +kernel
theorem dX4_holding_27 : decode cX4_holding 27 = .ok (.checkcast 42, 3) := by decide +kernel
theorem dX4_holding_30 : decode cX4_holding 30 = .ok (.astore 5, 2) := by decide +kernel
theorem dX4_holding_32 : decode cX4_holding 32 = .ok (.aload_n 0, 1) := by decide +kernel
theorem dX4_holding_33 : decode cX4_holding 33 = .ok (.aload 5, 2) := by decide +kernel
theorem dX4_holding_35 : decode cX4_holding 35 = .ok (.iload_n 2, 1) := by decide +kernel
theorem dX4_holding_36 : decode cX4_holding 36 = .ok (.iload_n 3, 1) := by decide +kernel
theorem dX4_holding_37 : decode cX4_holding 37 = .ok (.invokevirtual 129, 3) := by decide +kernel
theorem dX4_holding_40 : decode cX4_holding 40 = .ok (.iconst (-1), 1) := by decide +kernel
theorem dX4_holding_41 : decode cX4_holding 41 = .ok (.if_icmp .ne 6, 3) := by decide +kernel
theorem dX4_holding_44 : decode cX4_holding 44 = .ok (.aload 5, 2) := by decide +kernel
theorem dX4_holding_46 : decode cX4_holding 46 = .ok (.areturn, 1) := by decide +kernel
theorem dX4_holding_47 : decode cX4_holding 47 = .ok (.goto (-37), 3) := by decide +kernel
theorem dX4_holding_50 : decode cX4_holding 50 = .ok (.aconst_null, 1) := by decide +kernel
theorem dX4_holding_51 : decode cX4_holding 51 = .ok (.areturn, 1) := by decide +kernel
theorem dX4_verdictNow_0 : decode cX4_verdictNow 0 = .ok (.aload_n 0, 1) := by decide +kernel
theorem dX4_verdictNow_1 : decode cX4_verdictNow 1 = .ok (.iload_n 1, 1) := by decide +kernel
theorem dX4_verdictNow_2 : decode cX4_verdictNow 2 = .ok (.iload_n 2, 1) := by decide +kernel
theorem dX4_verdictNow_3 : decode cX4_verdictNow 3 = .ok (.iload_n 3, 1) := by decide +kernel
theorem dX4_verdictNow_4 : decode cX4_verdictNow 4 = .ok (.invokevirtual 132, 3) := by decide +kernel
theorem dX4_verdictNow_7 : decode cX4_verdictNow 7 = .ok (.ifnull 5, 3) := by decide +kernel
theorem dX4_verdictNow_10 : decode cX4_verdictNow 10 = .ok (.iconst 0, 1) := by decide +kernel
theorem dX4_verdictNow_11 : decode cX4_verdictNow 11 = .ok (.ireturn, 1) := by decide +kernel
theorem dX4_verdictNow_12 : decode cX4_verdictNow 12 = .ok (.aload_n 0, 1) := by decide +kernel
theorem dX4_verdictNow_13 : decode cX4_verdictNow 13 = .ok (.iload_n 1, 1) := by decide +kernel
theorem dX4_verdictNow_14 : decode cX4_verdictNow 14 = .ok (.invokevirtual 125, 3) := by decide +kernel
theorem dX4_verdictNow_17 : decode cX4_verdictNow 17 = .ok (.invokevirtual 136, 3) := by decide +kernel
theorem dX4_verdictNow_20 : decode cX4_verdictNow 20 = .ok (.ifCond .eq 6, 3) := by decide +kernel
theorem dX4_verdictNow_23 : decode cX4_verdictNow 23 = .ok (.bipush 10, 2) := by decide +kernel
theorem dX4_verdictNow_25 : decode cX4_verdictNow 25 = .ok (.ireturn, 1) := by decide +kernel
theorem dX4_verdictNow_26 : decode cX4_verdictNow 26 = .ok (.aload_n 0, 1) := by decide +kernel
theorem dX4_verdictNow_27 : decode cX4_verdictNow 27 = .ok (.iload_n 1, 1) := by decide +kernel
theorem dX4_verdictNow_28 : decode cX4_verdictNow 28 = .ok (.invokevirtual 125, 3) := by decide +kernel
theorem dX4_verdictNow_31 : decode cX4_verdictNow 31 = .ok (.iconst 0, 1) := by decide +kernel
theorem dX4_verdictNow_32 : decode cX4_verdictNow 32 = .ok (.invokevirtual 38, 3) := by decide +kernel
theorem dX4_verdictNow_35 : decode cX4_verdictNow 35 = .ok (.checkcast 42, 3) := by decide +kernel
theorem dX4_verdictNow_38 : decode cX4_verdictNow 38 = .ok (.astore 4, 2) := by decide +kernel
theorem dX4_verdictNow_40 : decode cX4_verdictNow 40 = .ok (.aload_n 0, 1) := by decide +kernel
theorem dX4_verdictNow_41 : decode cX4_verdictNow 41 = .ok (.aload 4, 2) := by decide +kernel
theorem dX4_verdictNow_43 : decode cX4_verdictNow 43 = .ok (.aload_n 0, 1) := by decide +kernel
theorem dX4_verdictNow_44 : decode cX4_verdictNow 44 = .ok (.aload 4, 2) := by decide +kernel
theorem dX4_verdictNow_46 : decode cX4_verdictNow 46 = .ok (.iload_n 2, 1) := by decide +kernel
theorem dX4_verdictNow_47 : decode cX4_verdictNow 47 = .ok (.iload_n 3, 1) := by decide +kernel
theorem dX4_verdictNow_48 : decode cX4_verdictNow 48 = .ok (.invokevirtual 129, 3) := by decide +kernel
theorem dX4_verdictNow_51 : decode cX4_verdictNow 51 = .ok (.iload_n 2, 1) := by decide +kernel
theorem dX4_verdictNow_52 : decode cX4_verdictNow 52 = .ok (.iload_n 3, 1) := by decide +kernel
theorem dX4_verdictNow_53 : decode cX4_verdictNow 53 = .ok (.invokevirtual 121, 3) := by decide +kernel
theorem dX4_verdictNow_56 : decode cX4_verdictNow 56 = .ok (.ireturn, 1) := by decide +kernel
theorem dX4_flawAtNow_0 : decode cX4_flawAtNow 0 = .ok (.aload_n 0, 1) := by decide +kernel
theorem dX4_flawAtNow_1 : decode cX4_flawAtNow 1 = .ok (.iload_n 1, 1) := by decide +kernel
theorem dX4_flawAtNow_2 : decode cX4_flawAtNow 2 = .ok (.iload_n 2, 1) := by decide +kernel
theorem dX4_flawAtNow_3 : decode cX4_flawAtNow 3 = .ok (.iload_n 3, 1) := by decide +kernel
theorem dX4_flawAtNow_4 : decode cX4_flawAtNow 4 = .ok (.invokevirtual 139, 3) := by decide +kernel
theorem dX4_flawAtNow_7 : decode cX4_flawAtNow 7 = .ok (.bipush 10, 2) := by decide +kernel
theorem dX4_flawAtNow_9 : decode cX4_flawAtNow 9 = .ok (.irem, 1) := by decide +kernel
theorem dX4_flawAtNow_10 : decode cX4_flawAtNow 10 = .ok (.ifCond .ne 7, 3) := by decide +kernel
theorem dX4_flawAtNow_13 : decode cX4_flawAtNow 13 = .ok (.iconst (-1), 1) := by decide +kernel
theorem dX4_flawAtNow_14 : decode cX4_flawAtNow 14 = .ok (.goto 21, 3) := by decide +kernel
theorem dX4_flawAtNow_17 : decode cX4_flawAtNow 17 = .ok (.aload_n 0, 1) := by decide +kernel
theorem dX4_flawAtNow_18 : decode cX4_flawAtNow 18 = .ok (.aload_n 0, 1) := by decide +kernel
theorem dX4_flawAtNow_19 : decode cX4_flawAtNow 19 = .ok (.iload_n 1, 1) := by decide +kernel
theorem dX4_flawAtNow_20 : decode cX4_flawAtNow 20 = .ok (.invokevirtual 125, 3) := by decide +kernel
theorem dX4_flawAtNow_23 : decode cX4_flawAtNow 23 = .ok (.iconst 0, 1) := by decide +kernel
theorem dX4_flawAtNow_24 : decode cX4_flawAtNow 24 = .ok (.invokevirtual 38, 3) := by decide +kernel
theorem dX4_flawAtNow_27 : decode cX4_flawAtNow 27 = .ok (.checkcast 42, 3) := by decide +kernel
theorem dX4_flawAtNow_30 : decode cX4_flawAtNow 30 = .ok (.iload_n 2, 1) := by decide +kernel
theorem dX4_flawAtNow_31 : decode cX4_flawAtNow 31 = .ok (.iload_n 3, 1) := by decide +kernel
theorem dX4_flawAtNow_32 : decode cX4_flawAtNow 32 = .ok (.invokevirtual 129, 3) := by decide +kernel
theorem dX4_flawAtNow_35 : decode cX4_flawAtNow 35 = .ok (.ireturn, 1) := by decide +kernel
theorem dX4_isLetter_0 : decode cX4_isLetter 0 = .ok (.iload_n 1, 1) := by decide +kernel
theorem dX4_isLetter_1 : decode cX4_isLetter 1 = .ok (.iconst 0, 1) := by decide +kernel
theorem dX4_isLetter_2 : decode cX4_isLetter 2 = .ok (.aload_n 0, 1) := by decide +kernel
theorem dX4_isLetter_3 : decode cX4_isLetter 3 = .ok (.getfield 10, 3) := by decide +kernel
theorem dX4_isLetter_6 : decode cX4_isLetter 6 = .ok (.invokevirtual 54, 3) := by decide +kernel
theorem dX4_isLetter_9 : decode cX4_isLetter 9 = .ok (.iconst 1, 1) := by decide +kernel
theorem dX4_isLetter_10 : decode cX4_isLetter 10 = .ok (.isub, 1) := by decide +kernel
theorem dX4_isLetter_11 : decode cX4_isLetter 11 = .ok (.invokestatic 26, 3) := by decide +kernel
theorem dX4_isLetter_14 : decode cX4_isLetter 14 = .ok (.ireturn, 1) := by decide +kernel
theorem dX4_isList_0 : decode cX4_isList 0 = .ok (.iload_n 1, 1) := by decide +kernel
theorem dX4_isList_1 : decode cX4_isList 1 = .ok (.iconst 0, 1) := by decide +kernel
theorem dX4_isList_2 : decode cX4_isList 2 = .ok (.aload_n 0, 1) := by decide +kernel
theorem dX4_isList_3 : decode cX4_isList 3 = .ok (.getfield 16, 3) := by decide +kernel
theorem dX4_isList_6 : decode cX4_isList 6 = .ok (.invokevirtual 54, 3) := by decide +kernel
theorem dX4_isList_9 : decode cX4_isList 9 = .ok (.iconst 1, 1) := by decide +kernel
theorem dX4_isList_10 : decode cX4_isList 10 = .ok (.isub, 1) := by decide +kernel
theorem dX4_isList_11 : decode cX4_isList 11 = .ok (.invokestatic 26, 3) := by decide +kernel
theorem dX4_isList_14 : decode cX4_isList 14 = .ok (.ireturn, 1) := by decide +kernel
theorem dX4_isKey_0 : decode cX4_isKey 0 = .ok (.iload_n 0, 1) := by decide +kernel
theorem dX4_isKey_1 : decode cX4_isKey 1 = .ok (.iconst 0, 1) := by decide +kernel
theorem dX4_isKey_2 : decode cX4_isKey 2 = .ok (.bipush 15, 2) := by decide +kernel
theorem dX4_isKey_4 : decode cX4_isKey 4 = .ok (.invokestatic 26, 3) := by decide +kernel
theorem dX4_isKey_7 : decode cX4_isKey 7 = .ok (.ireturn, 1) := by decide +kernel
theorem dX4_isTime_0 : decode cX4_isTime 0 = .ok (.iload_n 0, 1) := by decide +kernel
theorem dX4_isTime_1 : decode cX4_isTime 1 = .ok (.iconst 0, 1) := by decide +kernel
theorem dX4_isTime_2 : decode cX4_isTime 2 = .ok (.sipush 999, 3) := by decide +kernel
theorem dX4_isTime_5 : decode cX4_isTime 5 = .ok (.invokestatic 26, 3) := by decide +kernel
theorem dX4_isTime_8 : decode cX4_isTime 8 = .ok (.ireturn, 1) := by decide +kernel
theorem dX4_isAt_0 : decode cX4_isAt 0 = .ok (.iload_n 0, 1) := by decide +kernel
theorem dX4_isAt_1 : decode cX4_isAt 1 = .ok (.invokestatic 143, 3) := by decide +kernel
theorem dX4_isAt_4 : decode cX4_isAt 4 = .ok (.ifCond .eq 16, 3) := by decide +kernel
theorem dX4_isAt_7 : decode cX4_isAt 7 = .ok (.iload_n 1, 1) := by decide +kernel
theorem dX4_isAt_8 : decode cX4_isAt 8 = .ok (.iconst 0, 1) := by decide +kernel
theorem dX4_isAt_9 : decode cX4_isAt 9 = .ok (.iconst 3, 1) := by decide +kernel
theorem dX4_isAt_10 : decode cX4_isAt 10 = .ok (.invokestatic 26, 3) := by decide +kernel
theorem dX4_isAt_13 : decode cX4_isAt 13 = .ok (.ifCond .eq 7, 3) := by decide +kernel
theorem dX4_isAt_16 : decode cX4_isAt 16 = .ok (.iconst 1, 1) := by decide +kernel
theorem dX4_isAt_17 : decode cX4_isAt 17 = .ok (.goto 4, 3) := by decide +kernel
theorem dX4_isAt_20 : decode cX4_isAt 20 = .ok (.iconst 0, 1) := by decide +kernel
theorem dX4_isAt_21 : decode cX4_isAt 21 = .ok (.ireturn, 1) := by decide +kernel
theorem dX4_isNumber_0 : decode cX4_isNumber 0 = .ok (.iload_n 0, 1) := by decide +kernel
theorem dX4_isNumber_1 : decode cX4_isNumber 1 = .ok (.iconst 0, 1) := by decide +kernel
theorem dX4_isNumber_2 : decode cX4_isNumber 2 = .ok (.sipush 996, 3) := by decide +kernel
theorem dX4_isNumber_5 : decode cX4_isNumber 5 = .ok (.invokestatic 26, 3) := by decide +kernel
theorem dX4_isNumber_8 : decode cX4_isNumber 8 = .ok (.ireturn, 1) := by decide +kernel
theorem dX4_letter_0 : decode cX4_letter 0 = .ok (.aload_n 0, 1) := by decide +kernel
theorem dX4_letter_1 : decode cX4_letter 1 = .ok (.iconst 0, 1) := by decide +kernel
theorem dX4_letter_2 : decode cX4_letter 2 = .ok (.putfield 22, 3) := by decide +kernel
theorem dX4_letter_5 : decode cX4_letter 5 = .ok (.iload_n 1, 1) := by decide +kernel
theorem dX4_letter_6 : decode cX4_letter 6 = .ok (.invokestatic 30, 3) := by decide +kernel
theorem dX4_letter_9 : decode cX4_letter 9 = .ok (.ifCond .eq 28, 3) := by decide +kernel
theorem dX4_letter_12 : decode cX4_letter 12 = .ok (.iload_n 2, 1) := by decide +kernel
theorem dX4_letter_13 : decode cX4_letter 13 = .ok (.invokestatic 30, 3) := by decide +kernel
theorem dX4_letter_16 : decode cX4_letter 16 = .ok (.ifCond .eq 21, 3) := by decide +kernel
theorem dX4_letter_19 : decode cX4_letter 19 = .ok (.iload_n 3, 1) := by decide +kernel
theorem dX4_letter_20 : decode cX4_letter 20 = .ok (.invokestatic 146, 3) := by decide +kernel
theorem dX4_letter_23 : decode cX4_letter 23 = .ok (.ifCond .eq 14, 3) := by decide +kernel
theorem dX4_letter_26 : decode cX4_letter 26 = .ok (.iload 4, 2) := by decide +kernel
theorem dX4_letter_28 : decode cX4_letter 28 = .ok (.iconst 0, 1) := by decide +kernel
theorem dX4_letter_29 : decode cX4_letter 29 = .ok (.bipush 30, 2) := by decide +kernel
theorem dX4_letter_31 : decode cX4_letter 31 = .ok (.invokestatic 26, 3) := by decide +kernel
theorem dX4_letter_34 : decode cX4_letter 34 = .ok (.ifCond .ne 9, 3) := by decide +kernel
theorem dX4_letter_37 : decode cX4_letter 37 = .ok (.aload_n 0, 1) := by decide +kernel
theorem dX4_letter_38 : decode cX4_letter 38 = .ok (.iconst 1, 1) := by decide +kernel
theorem dX4_letter_39 : decode cX4_letter 39 = .ok (.invokevirtual 149, 3) := by decide +kernel
theorem dX4_letter_42 : decode cX4_letter 42 = .ok (.ireturn, 1) := by decide +kernel
theorem dX4_letter_43 : decode cX4_letter 43 = .ok (.aload_n 0, 1) := by decide +kernel
theorem dX4_letter_44 : decode cX4_letter 44 = .ok (.getfield 10, 3) := by decide +kernel
theorem dX4_letter_47 : decode cX4_letter 47 = .ok (.invokevirtual 54, 3) := by decide +kernel
theorem dX4_letter_50 : decode cX4_letter 50 = .ok (.bipush 20, 2) := by decide +kernel
theorem dX4_letter_52 : decode cX4_letter 52 = .ok (.if_icmp .ne 9, 3) := by decide +kernel
theorem dX4_letter_55 : decode cX4_letter 55 = .ok (.aload_n 0, 1) := by decide +kernel
theorem dX4_letter_56 : decode cX4_letter 56 = .ok (.iconst 2, 1) := by decide +kernel
theorem dX4_letter_57 : decode cX4_letter 57 = .ok (.invokevirtual 149, 3) := by decide +kernel
theorem dX4_letter_60 : decode cX4_letter 60 = .ok (.ireturn, 1) := by decide +kernel
theorem dX4_letter_61 : decode cX4_letter 61 = .ok (.bipush 13, 2) := by decide +kernel
theorem dX4_letter_63 : decode cX4_letter 63 = .ok (.newarray .int, 2) := by decide +kernel
theorem dX4_letter_65 : decode cX4_letter 65 = .ok (.dup, 1) := by decide +kernel
theorem dX4_letter_66 : decode cX4_letter 66 = .ok (.iconst 0, 1) := by decide +kernel
theorem dX4_letter_67 : decode cX4_letter 67 = .ok (.iload_n 1, 1) := by decide +kernel
theorem dX4_letter_68 : decode cX4_letter 68 = .ok (.iastore, 1) := by decide +kernel
theorem dX4_letter_69 : decode cX4_letter 69 = .ok (.dup, 1) := by decide +kernel
theorem dX4_letter_70 : decode cX4_letter 70 = .ok (.iconst 1, 1) := by decide +kernel
theorem dX4_letter_71 : decode cX4_letter 71 = .ok (.iload_n 2, 1) := by decide +kernel
theorem dX4_letter_72 : decode cX4_letter 72 = .ok (.iastore, 1) := by decide +kernel
theorem dX4_letter_73 : decode cX4_letter 73 = .ok (.dup, 1) := by decide +kernel
theorem dX4_letter_74 : decode cX4_letter 74 = .ok (.iconst 2, 1) := by decide +kernel
theorem dX4_letter_75 : decode cX4_letter 75 = .ok (.iload_n 3, 1) := by decide +kernel
theorem dX4_letter_76 : decode cX4_letter 76 = .ok (.iastore, 1) := by decide +kernel
theorem dX4_letter_77 : decode cX4_letter 77 = .ok (.dup, 1) := by decide +kernel
theorem dX4_letter_78 : decode cX4_letter 78 = .ok (.iconst 3, 1) := by decide +kernel
theorem dX4_letter_79 : decode cX4_letter 79 = .ok (.iload 4, 2) := by decide +kernel
theorem dX4_letter_81 : decode cX4_letter 81 = .ok (.iastore, 1) := by decide +kernel
theorem dX4_letter_82 : decode cX4_letter 82 = .ok (.dup, 1) := by decide +kernel
theorem dX4_letter_83 : decode cX4_letter 83 = .ok (.iconst 4, 1) := by decide +kernel
theorem dX4_letter_84 : decode cX4_letter 84 = .ok (.iconst 0, 1) := by decide +kernel
theorem dX4_letter_85 : decode cX4_letter 85 = .ok (.iastore, 1) := by decide +kernel
theorem dX4_letter_86 : decode cX4_letter 86 = .ok (.dup, 1) := by decide +kernel
theorem dX4_letter_87 : decode cX4_letter 87 = .ok (.iconst 5, 1) := by decide +kernel
theorem dX4_letter_88 : decode cX4_letter 88 = .ok (.sipush 999, 3) := by decide +kernel
theorem dX4_letter_91 : decode cX4_letter 91 = .ok (.iastore, 1) := by decide +kernel
theorem dX4_letter_92 : decode cX4_letter 92 = .ok (.dup, 1) := by decide +kernel
theorem dX4_letter_93 : decode cX4_letter 93 = .ok (.bipush 6, 2) := by decide +kernel
theorem dX4_letter_95 : decode cX4_letter 95 = .ok (.iconst 0, 1) := by decide +kernel
theorem dX4_letter_96 : decode cX4_letter 96 = .ok (.iastore, 1) := by decide +kernel
theorem dX4_letter_97 : decode cX4_letter 97 = .ok (.dup, 1) := by decide +kernel
theorem dX4_letter_98 : decode cX4_letter 98 = .ok (.bipush 7, 2) := by decide +kernel
theorem dX4_letter_100 : decode cX4_letter 100 = .ok (.iconst 0, 1) := by decide +kernel
theorem dX4_letter_101 : decode cX4_letter 101 = .ok (.iastore, 1) := by decide +kernel
theorem dX4_letter_102 : decode cX4_letter 102 = .ok (.dup, 1) := by decide +kernel
theorem dX4_letter_103 : decode cX4_letter 103 = .ok (.bipush 8, 2) := by decide +kernel
theorem dX4_letter_105 : decode cX4_letter 105 = .ok (.bipush 15, 2) := by decide +kernel
theorem dX4_letter_107 : decode cX4_letter 107 = .ok (.iastore, 1) := by decide +kernel
theorem dX4_letter_108 : decode cX4_letter 108 = .ok (.dup, 1) := by decide +kernel
theorem dX4_letter_109 : decode cX4_letter 109 = .ok (.bipush 9, 2) := by decide +kernel
theorem dX4_letter_111 : decode cX4_letter 111 = .ok (.iconst 0, 1) := by decide +kernel
theorem dX4_letter_112 : decode cX4_letter 112 = .ok (.iastore, 1) := by decide +kernel
theorem dX4_letter_113 : decode cX4_letter 113 = .ok (.dup, 1) := by decide +kernel
theorem dX4_letter_114 : decode cX4_letter 114 = .ok (.bipush 10, 2) := by decide +kernel
theorem dX4_letter_116 : decode cX4_letter 116 = .ok (.iconst 0, 1) := by decide +kernel
theorem dX4_letter_117 : decode cX4_letter 117 = .ok (.iastore, 1) := by decide +kernel
theorem dX4_letter_118 : decode cX4_letter 118 = .ok (.dup, 1) := by decide +kernel
theorem dX4_letter_119 : decode cX4_letter 119 = .ok (.bipush 11, 2) := by decide +kernel
theorem dX4_letter_121 : decode cX4_letter 121 = .ok (.iconst 0, 1) := by decide +kernel
theorem dX4_letter_122 : decode cX4_letter 122 = .ok (.iastore, 1) := by decide +kernel
theorem dX4_letter_123 : decode cX4_letter 123 = .ok (.dup, 1) := by decide +kernel
theorem dX4_letter_124 : decode cX4_letter 124 = .ok (.bipush 12, 2) := by decide +kernel
theorem dX4_letter_126 : decode cX4_letter 126 = .ok (.iconst 0, 1) := by decide +kernel
theorem dX4_letter_127 : decode cX4_letter 127 = .ok (.iastore, 1) := by decide +kernel
theorem dX4_letter_128 : decode cX4_letter 128 = .ok (.astore 5, 2) := by decide +kernel
theorem dX4_letter_130 : decode cX4_letter 130 = .ok (.aload_n 0, 1) := by decide +kernel
theorem dX4_letter_131 : decode cX4_letter 131 = .ok (.getfield 10, 3) := by decide +kernel
theorem dX4_letter_134 : decode cX4_letter 134 = .ok (.aload 5, 2) := by decide +kernel
theorem dX4_letter_136 : decode cX4_letter 136 = .ok (.invokevirtual 68, 3) := by decide +kernel
theorem dX4_letter_139 : decode cX4_letter 139 = .ok (.pop, 1) := by decide +kernel
theorem dX4_letter_140 : decode cX4_letter 140 = .ok (.aload_n 0, 1) := by decide +kernel
theorem dX4_letter_141 : decode cX4_letter 141 = .ok (.invokevirtual 153, 3) := by decide +kernel
theorem dX4_letter_144 : decode cX4_letter 144 = .ok (.aload_n 0, 1) := by decide +kernel
theorem dX4_letter_145 : decode cX4_letter 145 = .ok (.getfield 10, 3) := by decide +kernel
theorem dX4_letter_148 : decode cX4_letter 148 = .ok (.invokevirtual 54, 3) := by decide +kernel
theorem dX4_letter_151 : decode cX4_letter 151 = .ok (.iconst 1, 1) := by decide +kernel
theorem dX4_letter_152 : decode cX4_letter 152 = .ok (.isub, 1) := by decide +kernel
theorem dX4_letter_153 : decode cX4_letter 153 = .ok (.ireturn, 1) := by decide +kernel
theorem dX4_becomes_0 : decode cX4_becomes 0 = .ok (.aload_n 0, 1) := by decide +kernel
theorem dX4_becomes_1 : decode cX4_becomes 1 = .ok (.getfield 10, 3) := by decide +kernel
theorem dX4_becomes_4 : decode cX4_becomes 4 = .ok (.iload_n 1, 1) := by decide +kernel
theorem dX4_becomes_5 : decode cX4_becomes 5 = .ok (.invokevirtual 38, 3) := by decide +kernel
theorem dX4_becomes_8 : decode cX4_becomes 8 = .ok (.checkcast 42, 3) := by decide +kernel
theorem dX4_becomes_11 : decode cX4_becomes 11 = .ok (.astore 5, 2) := by decide +kernel
theorem dX4_becomes_13 : decode cX4_becomes 13 = .ok (.aload 5, 2) := by decide +kernel
theorem dX4_becomes_15 : decode cX4_becomes 15 = .ok (.iload_n 2, 1) := by decide +kernel
theorem dX4_becomes_16 : decode cX4_becomes 16 = .ok (.iload_n 3, 1) := by decide +kernel
theorem dX4_becomes_17 : decode cX4_becomes 17 = .ok (.iastore, 1) := by decide +kernel
theorem dX4_becomes_18 : decode cX4_becomes 18 = .ok (.aload 5, 2) := by decide +kernel
theorem dX4_becomes_20 : decode cX4_becomes 20 = .ok (.iload_n 2, 1) := by decide +kernel
theorem dX4_becomes_21 : decode cX4_becomes 21 = .ok (.iconst 1, 1) := by decide +kernel
theorem dX4_becomes_22 : decode cX4_becomes 22 = .ok (.iadd, 1) := by decide +kernel
theorem dX4_becomes_23 : decode cX4_becomes 23 = .ok (.iload 4, 2) := by decide +kernel
theorem dX4_becomes_25 : decode cX4_becomes 25 = .ok (.iastore, 1) := by decide +kernel
theorem dX4_becomes_26 : decode cX4_becomes 26 = .ok (.aload_n 0, 1) := by decide +kernel
theorem dX4_becomes_27 : decode cX4_becomes 27 = .ok (.invokevirtual 153, 3) := by decide +kernel
theorem dX4_becomes_30 : decode cX4_becomes 30 = .ok (.aload 5, 2) := by decide +kernel
theorem dX4_becomes_32 : decode cX4_becomes 32 = .ok (.invokestatic 44, 3) := by decide +kernel
theorem dX4_becomes_35 : decode cX4_becomes 35 = .ok (.ireturn, 1) := by decide +kernel
theorem dX4_times_0 : decode cX4_times 0 = .ok (.aload_n 0, 1) := by decide +kernel
theorem dX4_times_1 : decode cX4_times 1 = .ok (.iconst 0, 1) := by decide +kernel
theorem dX4_times_2 : decode cX4_times 2 = .ok (.putfield 22, 3) := by decide +kernel
theorem dX4_times_5 : decode cX4_times 5 = .ok (.aload_n 0, 1) := by decide +kernel
theorem dX4_times_6 : decode cX4_times 6 = .ok (.iload_n 1, 1) := by decide +kernel
theorem dX4_times_7 : decode cX4_times 7 = .ok (.invokevirtual 156, 3) := by decide +kernel
theorem dX4_times_10 : decode cX4_times 10 = .ok (.ifCond .ne 9, 3) := by decide +kernel
theorem dX4_times_13 : decode cX4_times 13 = .ok (.aload_n 0, 1) := by decide +kernel
theorem dX4_times_14 : decode cX4_times 14 = .ok (.iconst 1, 1) := by decide +kernel
theorem dX4_times_15 : decode cX4_times 15 = .ok (.invokevirtual 149, 3) := by decide +kernel
theorem dX4_times_18 : decode cX4_times 18 = .ok (.ireturn, 1) := by decide +kernel
theorem dX4_times_19 : decode cX4_times 19 = .ok (.iload_n 2, 1) := by decide +kernel
theorem dX4_times_20 : decode cX4_times 20 = .ok (.invokestatic 143, 3) := by decide +kernel
theorem dX4_times_23 : decode cX4_times 23 = .ok (.ifCond .eq 26, 3) := by decide +kernel
theorem dX4_times_26 : decode cX4_times 26 = .ok (.iload_n 3, 1) := by decide +kernel
theorem dX4_times_27 : decode cX4_times 27 = .ok (.invokestatic 143, 3) := by decide +kernel
theorem dX4_times_30 : decode cX4_times 30 = .ok (.ifCond .eq 19, 3) := by decide +kernel
theorem dX4_times_33 : decode cX4_times 33 = .ok (.iload_n 2, 1) := by decide +kernel
theorem dX4_times_34 : decode cX4_times 34 = .ok (.iload_n 3, 1) := by decide +kernel
theorem dX4_times_35 : decode cX4_times 35 = .ok (.if_icmp .gt 14, 3) := by decide +kernel
theorem dX4_times_38 : decode cX4_times 38 = .ok (.aload_n 0, 1) := by decide +kernel
theorem dX4_times_39 : decode cX4_times 39 = .ok (.iload_n 1, 1) := by decide +kernel
theorem dX4_times_40 : decode cX4_times 40 = .ok (.iconst 4, 1) := by decide +kernel
theorem dX4_times_41 : decode cX4_times 41 = .ok (.iload_n 2, 1) := by decide +kernel
theorem dX4_times_42 : decode cX4_times 42 = .ok (.iload_n 3, 1) := by decide +kernel
theorem dX4_times_43 : decode cX4_times 43 = .ok (.invokevirtual 159, 3) := by decide +kernel
theorem dX4_times_46 : decode cX4_times 46 = .ok (.goto 8, 3) := by decide +kernel
theorem dX4_times_49 : decode cX4_times 49 = .ok (.aload_n 0, 1) := by decide +kernel
theorem dX4_times_50 : decode cX4_times 50 = .ok (.iconst 2, 1) := by decide +kernel
theorem dX4_times_51 : decode cX4_times 51 = .ok (.invokevirtual 149, 3) := by decide +kernel
theorem dX4_times_54 : decode cX4_times 54 = .ok (.ireturn, 1) := by decide +kernel
theorem dX4_master_0 : decode cX4_master 0 = .ok (.aload_n 0, 1) := by decide +kernel
theorem dX4_master_1 : decode cX4_master 1 = .ok (.iconst 0, 1) := by decide +kernel
theorem dX4_master_2 : decode cX4_master 2 = .ok (.putfield 22, 3) := by decide +kernel
theorem dX4_master_5 : decode cX4_master 5 = .ok (.aload_n 0, 1) := by decide +kernel
theorem dX4_master_6 : decode cX4_master 6 = .ok (.iload_n 1, 1) := by decide +kernel
theorem dX4_master_7 : decode cX4_master 7 = .ok (.invokevirtual 156, 3) := by decide +kernel
theorem dX4_master_10 : decode cX4_master 10 = .ok (.ifCond .ne 9, 3) := by decide +kernel
theorem dX4_master_13 : decode cX4_master 13 = .ok (.aload_n 0, 1) := by decide +kernel
theorem dX4_master_14 : decode cX4_master 14 = .ok (.iconst 1, 1) := by decide +kernel
theorem dX4_master_15 : decode cX4_master 15 = .ok (.invokevirtual 149, 3) := by decide +kernel
theorem dX4_master_18 : decode cX4_master 18 = .ok (.ireturn, 1) := by decide +kernel
theorem dX4_master_19 : decode cX4_master 19 = .ok (.iload_n 3, 1) := by decide +kernel
theorem dX4_master_20 : decode cX4_master 20 = .ok (.iconst 0, 1) := by decide +kernel
theorem dX4_master_21 : decode cX4_master 21 = .ok (.iconst 5, 1) := by decide +kernel
theorem dX4_master_22 : decode cX4_master 22 = .ok (.invokestatic 26, 3) := by decide +kernel
theorem dX4_master_25 : decode cX4_master 25 = .ok (.ifCond .eq 23, 3) := by decide +kernel
theorem dX4_master_28 : decode cX4_master 28 = .ok (.aload_n 0, 1) := by decide +kernel
theorem dX4_master_29 : decode cX4_master 29 = .ok (.iload_n 1, 1) := by decide +kernel
theorem dX4_master_30 : decode cX4_master 30 = .ok (.bipush 6, 2) := by decide +kernel
theorem dX4_master_32 : decode cX4_master 32 = .ok (.iload_n 2, 1) := by decide +kernel
theorem dX4_master_33 : decode cX4_master 33 = .ok (.ifCond .eq 7, 3) := by decide +kernel
theorem dX4_master_36 : decode cX4_master 36 = .ok (.iconst 1, 1) := by decide +kernel
theorem dX4_master_37 : decode cX4_master 37 = .ok (.goto 4, 3) := by decide +kernel
theorem dX4_master_40 : decode cX4_master 40 = .ok (.iconst 0, 1) := by decide +kernel
theorem dX4_master_41 : decode cX4_master 41 = .ok (.iload_n 3, 1) := by decide +kernel
theorem dX4_master_42 : decode cX4_master 42 = .ok (.invokevirtual 159, 3) := by decide +kernel
theorem dX4_master_45 : decode cX4_master 45 = .ok (.goto 8, 3) := by decide +kernel
theorem dX4_master_48 : decode cX4_master 48 = .ok (.aload_n 0, 1) := by decide +kernel
theorem dX4_master_49 : decode cX4_master 49 = .ok (.iconst 2, 1) := by decide +kernel
theorem dX4_master_50 : decode cX4_master 50 = .ok (.invokevirtual 149, 3) := by decide +kernel
theorem dX4_master_53 : decode cX4_master 53 = .ok (.ireturn, 1) := by decide +kernel
theorem dX4_good_0 : decode cX4_good 0 = .ok (.aload_n 0, 1) := by decide +kernel
theorem dX4_good_1 : decode cX4_good 1 = .ok (.iconst 0, 1) := by decide +kernel
theorem dX4_good_2 : decode cX4_good 2 = .ok (.putfield 22, 3) := by decide +kernel
theorem dX4_good_5 : decode cX4_good 5 = .ok (.aload_n 0, 1) := by decide +kernel
theorem dX4_good_6 : decode cX4_good 6 = .ok (.iload_n 1, 1) := by decide +kernel
theorem dX4_good_7 : decode cX4_good 7 = .ok (.invokevirtual 156, 3) := by decide +kernel
theorem dX4_good_10 : decode cX4_good 10 = .ok (.ifCond .ne 9, 3) := by decide +kernel
theorem dX4_good_13 : decode cX4_good 13 = .ok (.aload_n 0, 1) := by decide +kernel
theorem dX4_good_14 : decode cX4_good 14 = .ok (.iconst 1, 1) := by decide +kernel
theorem dX4_good_15 : decode cX4_good 15 = .ok (.invokevirtual 149, 3) := by decide +kernel
theorem dX4_good_18 : decode cX4_good 18 = .ok (.ireturn, 1) := by decide +kernel
theorem dX4_good_19 : decode cX4_good 19 = .ok (.iload_n 2, 1) := by decide +kernel
theorem dX4_good_20 : decode cX4_good 20 = .ok (.iconst 0, 1) := by decide +kernel
theorem dX4_good_21 : decode cX4_good 21 = .ok (.bipush 15, 2) := by decide +kernel
theorem dX4_good_23 : decode cX4_good 23 = .ok (.invokestatic 26, 3) := by decide +kernel
theorem dX4_good_26 : decode cX4_good 26 = .ok (.ifCond .eq 22, 3) := by decide +kernel
theorem dX4_good_29 : decode cX4_good 29 = .ok (.iload_n 3, 1) := by decide +kernel
theorem dX4_good_30 : decode cX4_good 30 = .ok (.invokestatic 163, 3) := by decide +kernel
theorem dX4_good_33 : decode cX4_good 33 = .ok (.ifCond .eq 15, 3) := by decide +kernel
theorem dX4_good_36 : decode cX4_good 36 = .ok (.aload_n 0, 1) := by decide +kernel
theorem dX4_good_37 : decode cX4_good 37 = .ok (.iload_n 1, 1) := by decide +kernel
theorem dX4_good_38 : decode cX4_good 38 = .ok (.bipush 8, 2) := by decide +kernel
theorem dX4_good_40 : decode cX4_good 40 = .ok (.iload_n 2, 1) := by decide +kernel
theorem dX4_good_41 : decode cX4_good 41 = .ok (.iload_n 3, 1) := by decide +kernel
theorem dX4_good_42 : decode cX4_good 42 = .ok (.invokevirtual 159, 3) := by decide +kernel
theorem dX4_good_45 : decode cX4_good 45 = .ok (.goto 8, 3) := by decide +kernel
theorem dX4_good_48 : decode cX4_good 48 = .ok (.aload_n 0, 1) := by decide +kernel
theorem dX4_good_49 : decode cX4_good 49 = .ok (.iconst 2, 1) := by decide +kernel
theorem dX4_good_50 : decode cX4_good 50 = .ok (.invokevirtual 149, 3) := by decide +kernel
theorem dX4_good_53 : decode cX4_good 53 = .ok (.ireturn, 1) := by decide +kernel
theorem dX4_sign_0 : decode cX4_sign 0 = .ok (.aload_n 0, 1) := by decide +kernel
theorem dX4_sign_1 : decode cX4_sign 1 = .ok (.iconst 0, 1) := by decide +kernel
theorem dX4_sign_2 : decode cX4_sign 2 = .ok (.putfield 22, 3) := by decide +kernel
theorem dX4_sign_5 : decode cX4_sign 5 = .ok (.aload_n 0, 1) := by decide +kernel
theorem dX4_sign_6 : decode cX4_sign 6 = .ok (.iload_n 1, 1) := by decide +kernel
theorem dX4_sign_7 : decode cX4_sign 7 = .ok (.invokevirtual 156, 3) := by decide +kernel
theorem dX4_sign_10 : decode cX4_sign 10 = .ok (.ifCond .ne 9, 3) := by decide +kernel
theorem dX4_sign_13 : decode cX4_sign 13 = .ok (.aload_n 0, 1) := by decide +kernel
theorem dX4_sign_14 : decode cX4_sign 14 = .ok (.iconst 1, 1) := by decide +kernel
theorem dX4_sign_15 : decode cX4_sign 15 = .ok (.invokevirtual 149, 3) := by decide +kernel
theorem dX4_sign_18 : decode cX4_sign 18 = .ok (.ireturn, 1) := by decide +kernel
theorem dX4_sign_19 : decode cX4_sign 19 = .ok (.iload_n 2, 1) := by decide +kernel
theorem dX4_sign_20 : decode cX4_sign 20 = .ok (.invokestatic 146, 3) := by decide +kernel
theorem dX4_sign_23 : decode cX4_sign 23 = .ok (.ifCond .ne 9, 3) := by decide +kernel
theorem dX4_sign_26 : decode cX4_sign 26 = .ok (.aload_n 0, 1) := by decide +kernel
theorem dX4_sign_27 : decode cX4_sign 27 = .ok (.iconst 2, 1) := by decide +kernel
theorem dX4_sign_28 : decode cX4_sign 28 = .ok (.invokevirtual 149, 3) := by decide +kernel
theorem dX4_sign_31 : decode cX4_sign 31 = .ok (.ireturn, 1) := by decide +kernel
theorem dX4_sign_32 : decode cX4_sign 32 = .ok (.aload_n 0, 1) := by decide +kernel
theorem dX4_sign_33 : decode cX4_sign 33 = .ok (.getfield 10, 3) := by decide +kernel
theorem dX4_sign_36 : decode cX4_sign 36 = .ok (.iload_n 1, 1) := by decide +kernel
theorem dX4_sign_37 : decode cX4_sign 37 = .ok (.invokevirtual 38, 3) := by decide +kernel
theorem dX4_sign_40 : decode cX4_sign 40 = .ok (.checkcast 42, 3) := by decide +kernel
theorem dX4_sign_43 : decode cX4_sign 43 = .ok (.astore_n 3, 1) := by decide +kernel
theorem dX4_sign_44 : decode cX4_sign 44 = .ok (.aload_n 3, 1) := by decide +kernel
theorem dX4_sign_45 : decode cX4_sign 45 = .ok (.bipush 10, 2) := by decide +kernel
theorem dX4_sign_47 : decode cX4_sign 47 = .ok (.iload_n 2, 1) := by decide +kernel
theorem dX4_sign_48 : decode cX4_sign 48 = .ok (.aload_n 3, 1) := by decide +kernel
theorem dX4_sign_49 : decode cX4_sign 49 = .ok (.invokestatic 44, 3) := by decide +kernel
theorem dX4_sign_52 : decode cX4_sign 52 = .ok (.invokestatic 47, 3) := by decide +kernel
theorem dX4_sign_55 : decode cX4_sign 55 = .ok (.iastore, 1) := by decide +kernel
theorem dX4_sign_56 : decode cX4_sign 56 = .ok (.aload_n 0, 1) := by decide +kernel
theorem dX4_sign_57 : decode cX4_sign 57 = .ok (.invokevirtual 153, 3) := by decide +kernel
theorem dX4_sign_60 : decode cX4_sign 60 = .ok (.aload_n 3, 1) := by decide +kernel
theorem dX4_sign_61 : decode cX4_sign 61 = .ok (.bipush 10, 2) := by decide +kernel
theorem dX4_sign_63 : decode cX4_sign 63 = .ok (.iaload, 1) := by decide +kernel
theorem dX4_sign_64 : decode cX4_sign 64 = .ok (.ireturn, 1) := by decide +kernel
theorem dX4_anchors_0 : decode cX4_anchors 0 = .ok (.iconst 0, 1) := by decide +kernel
theorem dX4_anchors_1 : decode cX4_anchors 1 = .ok (.istore_n 1, 1) := by decide +kernel
theorem dX4_anchors_2 : decode cX4_anchors 2 = .ok (.aload_n 0, 1) := by decide +kernel
theorem dX4_anchors_3 : decode cX4_anchors 3 = .ok (.getfield 10, 3) := by decide +kernel
theorem dX4_anchors_6 : decode cX4_anchors 6 = .ok (.invokevirtual 89, 3) := by decide +kernel
theorem dX4_anchors_9 : decode cX4_anchors 9 = .ok (.astore_n 2, 1) := by decide +kernel
theorem dX4_anchors_10 : decode cX4_anchors 10 = .ok (.aload_n 2, 1) := by decide +kernel
theorem dX4_anchors_11 : decode cX4_anchors 11 = .ok (.invokeinterface 93 1, 5) := by decide +kernel
theorem dX4_anchors_16 : decode cX4_anchors 16 = .ok (.ifCond .eq 23, 3) := by decide +kernel
theorem dX4_anchors_19 : decode cX4_anchors 19 = .ok (.aload_n 2, 1) := by decide +kernel
theorem dX4_anchors_20 : decode cX4_anchors 20 = .ok (.invokeinterface 99 1, 5) := by decide +kernel
theorem dX4_anchors_25 : decode cX4_anchors 25 = .ok (.checkcast 42, 3) := by decide +kernel
theorem dX4_anchors_28 : decode cX4_anchors 28 = .ok (.astore_n 3, 1) := by decide +kernel
theorem dX4_anchors_29 : decode cX4_anchors 29 = .ok (.iload_n 1, 1) := by decide +kernel
theorem dX4_anchors_30 : decode cX4_anchors 30 = .ok (.aload_n 3, 1) := by decide +kernel
theorem dX4_anchors_31 : decode cX4_anchors 31 = .ok (.bipush 12, 2) := by decide +kernel
theorem dX4_anchors_33 : decode cX4_anchors 33 = .ok (.iaload, 1) := by decide +kernel
theorem dX4_anchors_34 : decode cX4_anchors 34 = .ok (.iadd, 1) := by decide +kernel
theorem dX4_anchors_35 : decode cX4_anchors 35 = .ok (.istore_n 1, 1) := by decide +kernel
theorem dX4_anchors_36 : decode cX4_anchors 36 = .ok (.goto (-26), 3) := by decide +kernel
theorem dX4_anchors_39 : decode cX4_anchors 39 = .ok (.iload_n 1, 1) := by decide +kernel
theorem dX4_anchors_40 : decode cX4_anchors 40 = .ok (.ireturn, 1) := by decide +kernel
theorem dX4_anchor_0 : decode cX4_anchor 0 = .ok (.aload_n 0, 1) := by decide +kernel
theorem dX4_anchor_1 : decode cX4_anchor 1 = .ok (.iconst 0, 1) := by decide +kernel
theorem dX4_anchor_2 : decode cX4_anchor 2 = .ok (.putfield 22, 3) := by decide +kernel
theorem dX4_anchor_5 : decode cX4_anchor 5 = .ok (.aload_n 0, 1) := by decide +kernel
theorem dX4_anchor_6 : decode cX4_anchor 6 = .ok (.iload_n 1, 1) := by decide +kernel
theorem dX4_anchor_7 : decode cX4_anchor 7 = .ok (.invokevirtual 156, 3) := by decide +kernel
theorem dX4_anchor_10 : decode cX4_anchor 10 = .ok (.ifCond .ne 9, 3) := by decide +kernel
theorem dX4_anchor_13 : decode cX4_anchor 13 = .ok (.aload_n 0, 1) := by decide +kernel
theorem dX4_anchor_14 : decode cX4_anchor 14 = .ok (.iconst 1, 1) := by decide +kernel
theorem dX4_anchor_15 : decode cX4_anchor 15 = .ok (.invokevirtual 149, 3) := by decide +kernel
theorem dX4_anchor_18 : decode cX4_anchor 18 = .ok (.ireturn, 1) := by decide +kernel
theorem dX4_anchor_19 : decode cX4_anchor 19 = .ok (.aload_n 0, 1) := by decide +kernel
theorem dX4_anchor_20 : decode cX4_anchor 20 = .ok (.getfield 10, 3) := by decide +kernel
theorem dX4_anchor_23 : decode cX4_anchor 23 = .ok (.iload_n 1, 1) := by decide +kernel
theorem dX4_anchor_24 : decode cX4_anchor 24 = .ok (.invokevirtual 38, 3) := by decide +kernel
theorem dX4_anchor_27 : decode cX4_anchor 27 = .ok (.checkcast 42, 3) := by decide +kernel
theorem dX4_anchor_30 : decode cX4_anchor 30 = .ok (.bipush 12, 2) := by decide +kernel
theorem dX4_anchor_32 : decode cX4_anchor 32 = .ok (.iload_n 2, 1) := by decide +kernel
theorem dX4_anchor_33 : decode cX4_anchor 33 = .ok (.ifCond .eq 7, 3) := by decide +kernel
theorem dX4_anchor_36 : decode cX4_anchor 36 = .ok (.iconst 1, 1) := by decide +kernel
theorem dX4_anchor_37 : decode cX4_anchor 37 = .ok (.goto 4, 3) := by decide +kernel
theorem dX4_anchor_40 : decode cX4_anchor 40 = .ok (.iconst 0, 1) := by decide +kernel
theorem dX4_anchor_41 : decode cX4_anchor 41 = .ok (.iastore, 1) := by decide +kernel
theorem dX4_anchor_42 : decode cX4_anchor 42 = .ok (.aload_n 0, 1) := by decide +kernel
theorem dX4_anchor_43 : decode cX4_anchor 43 = .ok (.invokevirtual 153, 3) := by decide +kernel
theorem dX4_anchor_46 : decode cX4_anchor 46 = .ok (.aload_n 0, 1) := by decide +kernel
theorem dX4_anchor_47 : decode cX4_anchor 47 = .ok (.invokevirtual 166, 3) := by decide +kernel
theorem dX4_anchor_50 : decode cX4_anchor 50 = .ok (.ireturn, 1) := by decide +kernel
theorem dX4_list_0 : decode cX4_list 0 = .ok (.aload_n 0, 1) := by decide +kernel
theorem dX4_list_1 : decode cX4_list 1 = .ok (.iconst 0, 1) := by decide +kernel
theorem dX4_list_2 : decode cX4_list 2 = .ok (.putfield 22, 3) := by decide +kernel
theorem dX4_list_5 : decode cX4_list 5 = .ok (.iload_n 1, 1) := by decide +kernel
theorem dX4_list_6 : decode cX4_list 6 = .ok (.invokestatic 30, 3) := by decide +kernel
theorem dX4_list_9 : decode cX4_list 9 = .ok (.ifCond .eq 22, 3) := by decide +kernel
theorem dX4_list_12 : decode cX4_list 12 = .ok (.iload_n 2, 1) := by decide +kernel
theorem dX4_list_13 : decode cX4_list 13 = .ok (.invokestatic 143, 3) := by decide +kernel
theorem dX4_list_16 : decode cX4_list 16 = .ok (.ifCond .eq 15, 3) := by decide +kernel
theorem dX4_list_19 : decode cX4_list 19 = .ok (.iload_n 3, 1) := by decide +kernel
theorem dX4_list_20 : decode cX4_list 20 = .ok (.invokestatic 143, 3) := by decide +kernel
theorem dX4_list_23 : decode cX4_list 23 = .ok (.ifCond .eq 8, 3) := by decide +kernel
theorem dX4_list_26 : decode cX4_list 26 = .ok (.iload_n 3, 1) := by decide +kernel
theorem dX4_list_27 : decode cX4_list 27 = .ok (.iload_n 2, 1) := by decide +kernel
theorem dX4_list_28 : decode cX4_list 28 = .ok (.if_icmp .ge 9, 3) := by decide +kernel
theorem dX4_list_31 : decode cX4_list 31 = .ok (.aload_n 0, 1) := by decide +kernel
theorem dX4_list_32 : decode cX4_list 32 = .ok (.iconst 1, 1) := by decide +kernel
theorem dX4_list_33 : decode cX4_list 33 = .ok (.invokevirtual 149, 3) := by decide +kernel
theorem dX4_list_36 : decode cX4_list 36 = .ok (.ireturn, 1) := by decide +kernel
theorem dX4_list_37 : decode cX4_list 37 = .ok (.aload_n 0, 1) := by decide +kernel
theorem dX4_list_38 : decode cX4_list 38 = .ok (.getfield 16, 3) := by decide +kernel
theorem dX4_list_41 : decode cX4_list 41 = .ok (.invokevirtual 54, 3) := by decide +kernel
theorem dX4_list_44 : decode cX4_list 44 = .ok (.bipush 8, 2) := by decide +kernel
theorem dX4_list_46 : decode cX4_list 46 = .ok (.if_icmp .ne 9, 3) := by decide +kernel
theorem dX4_list_49 : decode cX4_list 49 = .ok (.aload_n 0, 1) := by decide +kernel
theorem dX4_list_50 : decode cX4_list 50 = .ok (.iconst 2, 1) := by decide +kernel
theorem dX4_list_51 : decode cX4_list 51 = .ok (.invokevirtual 149, 3) := by decide +kernel
theorem dX4_list_54 : decode cX4_list 54 = .ok (.ireturn, 1) := by decide +kernel
theorem dX4_list_55 : decode cX4_list 55 = .ok (.iconst 5, 1) := by decide +kernel
theorem dX4_list_56 : decode cX4_list 56 = .ok (.newarray .int, 2) := by decide +kernel
theorem dX4_list_58 : decode cX4_list 58 = .ok (.dup, 1) := by decide +kernel
theorem dX4_list_59 : decode cX4_list 59 = .ok (.iconst 0, 1) := by decide +kernel
theorem dX4_list_60 : decode cX4_list 60 = .ok (.iload_n 1, 1) := by decide +kernel
theorem dX4_list_61 : decode cX4_list 61 = .ok (.iastore, 1) := by decide +kernel
theorem dX4_list_62 : decode cX4_list 62 = .ok (.dup, 1) := by decide +kernel
theorem dX4_list_63 : decode cX4_list 63 = .ok (.iconst 1, 1) := by decide +kernel
theorem dX4_list_64 : decode cX4_list 64 = .ok (.iload_n 2, 1) := by decide +kernel
theorem dX4_list_65 : decode cX4_list 65 = .ok (.iastore, 1) := by decide +kernel
theorem dX4_list_66 : decode cX4_list 66 = .ok (.dup, 1) := by decide +kernel
theorem dX4_list_67 : decode cX4_list 67 = .ok (.iconst 2, 1) := by decide +kernel
theorem dX4_list_68 : decode cX4_list 68 = .ok (.iload_n 3, 1) := by decide +kernel
theorem dX4_list_69 : decode cX4_list 69 = .ok (.iastore, 1) := by decide +kernel
theorem dX4_list_70 : decode cX4_list 70 = .ok (.dup, 1) := by decide +kernel
theorem dX4_list_71 : decode cX4_list 71 = .ok (.iconst 3, 1) := by decide +kernel
theorem dX4_list_72 : decode cX4_list 72 = .ok (.iconst 0, 1) := by decide +kernel
theorem dX4_list_73 : decode cX4_list 73 = .ok (.iastore, 1) := by decide +kernel
theorem dX4_list_74 : decode cX4_list 74 = .ok (.dup, 1) := by decide +kernel
theorem dX4_list_75 : decode cX4_list 75 = .ok (.iconst 4, 1) := by decide +kernel
theorem dX4_list_76 : decode cX4_list 76 = .ok (.iconst 0, 1) := by decide +kernel
theorem dX4_list_77 : decode cX4_list 77 = .ok (.iastore, 1) := by decide +kernel
theorem dX4_list_78 : decode cX4_list 78 = .ok (.astore 4, 2) := by decide +kernel
theorem dX4_list_80 : decode cX4_list 80 = .ok (.aload_n 0, 1) := by decide +kernel
theorem dX4_list_81 : decode cX4_list 81 = .ok (.getfield 16, 3) := by decide +kernel
theorem dX4_list_84 : decode cX4_list 84 = .ok (.aload 4, 2) := by decide +kernel
theorem dX4_list_86 : decode cX4_list 86 = .ok (.invokevirtual 68, 3) := by decide +kernel
theorem dX4_list_89 : decode cX4_list 89 = .ok (.pop, 1) := by decide +kernel
theorem dX4_list_90 : decode cX4_list 90 = .ok (.aload_n 0, 1) := by decide +kernel
theorem dX4_list_91 : decode cX4_list 91 = .ok (.getfield 16, 3) := by decide +kernel
theorem dX4_list_94 : decode cX4_list 94 = .ok (.invokevirtual 54, 3) := by decide +kernel
theorem dX4_list_97 : decode cX4_list 97 = .ok (.iconst 1, 1) := by decide +kernel
theorem dX4_list_98 : decode cX4_list 98 = .ok (.isub, 1) := by decide +kernel
theorem dX4_list_99 : decode cX4_list 99 = .ok (.ireturn, 1) := by decide +kernel
theorem dX4_call_0 : decode cX4_call 0 = .ok (.aload_n 0, 1) := by decide +kernel
theorem dX4_call_1 : decode cX4_call 1 = .ok (.iconst 0, 1) := by decide +kernel
theorem dX4_call_2 : decode cX4_call 2 = .ok (.putfield 22, 3) := by decide +kernel
theorem dX4_call_5 : decode cX4_call 5 = .ok (.aload_n 0, 1) := by decide +kernel
theorem dX4_call_6 : decode cX4_call 6 = .ok (.iload_n 1, 1) := by decide +kernel
theorem dX4_call_7 : decode cX4_call 7 = .ok (.invokevirtual 169, 3) := by decide +kernel
theorem dX4_call_10 : decode cX4_call 10 = .ok (.ifCond .ne 9, 3) := by decide +kernel
theorem dX4_call_13 : decode cX4_call 13 = .ok (.aload_n 0, 1) := by decide +kernel
theorem dX4_call_14 : decode cX4_call 14 = .ok (.iconst 1, 1) := by decide +kernel
theorem dX4_call_15 : decode cX4_call 15 = .ok (.invokevirtual 149, 3) := by decide +kernel
theorem dX4_call_18 : decode cX4_call 18 = .ok (.ireturn, 1) := by decide +kernel
theorem dX4_call_19 : decode cX4_call 19 = .ok (.iload_n 2, 1) := by decide +kernel
theorem dX4_call_20 : decode cX4_call 20 = .ok (.iconst 0, 1) := by decide +kernel
theorem dX4_call_21 : decode cX4_call 21 = .ok (.bipush 30, 2) := by decide +kernel
theorem dX4_call_23 : decode cX4_call 23 = .ok (.invokestatic 26, 3) := by decide +kernel
theorem dX4_call_26 : decode cX4_call 26 = .ok (.ifCond .ne 9, 3) := by decide +kernel
theorem dX4_call_29 : decode cX4_call 29 = .ok (.aload_n 0, 1) := by decide +kernel
theorem dX4_call_30 : decode cX4_call 30 = .ok (.iconst 2, 1) := by decide +kernel
theorem dX4_call_31 : decode cX4_call 31 = .ok (.invokevirtual 149, 3) := by decide +kernel
theorem dX4_call_34 : decode cX4_call 34 = .ok (.ireturn, 1) := by decide +kernel
theorem dX4_call_35 : decode cX4_call 35 = .ok (.aload_n 0, 1) := by decide +kernel
theorem dX4_call_36 : decode cX4_call 36 = .ok (.getfield 16, 3) := by decide +kernel
theorem dX4_call_39 : decode cX4_call 39 = .ok (.iload_n 1, 1) := by decide +kernel
theorem dX4_call_40 : decode cX4_call 40 = .ok (.invokevirtual 38, 3) := by decide +kernel
theorem dX4_call_43 : decode cX4_call 43 = .ok (.checkcast 42, 3) := by decide +kernel
theorem dX4_call_46 : decode cX4_call 46 = .ok (.iconst 3, 1) := by decide +kernel
theorem dX4_call_47 : decode cX4_call 47 = .ok (.dup2, 1) := by decide +kernel
theorem dX4_call_48 : decode cX4_call 48 = .ok (.iaload, 1) := by decide +kernel
theorem dX4_call_49 : decode cX4_call 49 = .ok (.iconst 1, 1) := by decide +kernel
theorem dX4_call_50 : decode cX4_call 50 = .ok (.iload_n 2, 1) := by decide +kernel
theorem dX4_call_51 : decode cX4_call 51 = .ok (.ishl, 1) := by decide +kernel
theorem dX4_call_52 : decode cX4_call 52 = .ok (.ixor, 1) := by decide +kernel
theorem dX4_call_53 : decode cX4_call 53 = .ok (.iastore, 1) := by decide +kernel
theorem dX4_call_54 : decode cX4_call 54 = .ok (.aload_n 0, 1) := by decide +kernel
theorem dX4_call_55 : decode cX4_call 55 = .ok (.getfield 16, 3) := by decide +kernel
theorem dX4_call_58 : decode cX4_call 58 = .ok (.iload_n 1, 1) := by decide +kernel
theorem dX4_call_59 : decode cX4_call 59 = .ok (.invokevirtual 38, 3) := by decide +kernel
theorem dX4_call_62 : decode cX4_call 62 = .ok (.checkcast 42, 3) := by decide +kernel
theorem dX4_call_65 : decode cX4_call 65 = .ok (.iconst 3, 1) := by decide +kernel
theorem dX4_call_66 : decode cX4_call 66 = .ok (.iaload, 1) := by decide +kernel
theorem dX4_call_67 : decode cX4_call 67 = .ok (.invokestatic 172, 3) := by decide +kernel
theorem dX4_call_70 : decode cX4_call 70 = .ok (.ireturn, 1) := by decide +kernel
theorem dX4_signList_0 : decode cX4_signList 0 = .ok (.aload_n 0, 1) := by decide +kernel
theorem dX4_signList_1 : decode cX4_signList 1 = .ok (.iconst 0, 1) := by decide +kernel
theorem dX4_signList_2 : decode cX4_signList 2 = .ok (.putfield 22, 3) := by decide +kernel
theorem dX4_signList_5 : decode cX4_signList 5 = .ok (.aload_n 0, 1) := by decide +kernel
theorem dX4_signList_6 : decode cX4_signList 6 = .ok (.iload_n 1, 1) := by decide +kernel
theorem dX4_signList_7 : decode cX4_signList 7 = .ok (.invokevirtual 169, 3) := by decide +kernel
theorem dX4_signList_10 : decode cX4_signList 10 = .ok (.ifCond .ne 9, 3) := by decide +kernel
theorem dX4_signList_13 : decode cX4_signList 13 = .ok (.aload_n 0, 1) := by decide +kernel
theorem dX4_signList_14 : decode cX4_signList 14 = .ok (.iconst 1, 1) := by decide +kernel
theorem dX4_signList_15 : decode cX4_signList 15 = .ok (.invokevirtual 149, 3) := by decide +kernel
theorem dX4_signList_18 : decode cX4_signList 18 = .ok (.ireturn, 1) := by decide +kernel
theorem dX4_signList_19 : decode cX4_signList 19 = .ok (.iload_n 2, 1) := by decide +kernel
theorem dX4_signList_20 : decode cX4_signList 20 = .ok (.invokestatic 146, 3) := by decide +kernel
theorem dX4_signList_23 : decode cX4_signList 23 = .ok (.ifCond .ne 9, 3) := by decide +kernel
theorem dX4_signList_26 : decode cX4_signList 26 = .ok (.aload_n 0, 1) := by decide +kernel
theorem dX4_signList_27 : decode cX4_signList 27 = .ok (.iconst 2, 1) := by decide +kernel
theorem dX4_signList_28 : decode cX4_signList 28 = .ok (.invokevirtual 149, 3) := by decide +kernel
theorem dX4_signList_31 : decode cX4_signList 31 = .ok (.ireturn, 1) := by decide +kernel
theorem dX4_signList_32 : decode cX4_signList 32 = .ok (.aload_n 0, 1) := by decide +kernel
theorem dX4_signList_33 : decode cX4_signList 33 = .ok (.getfield 16, 3) := by decide +kernel
theorem dX4_signList_36 : decode cX4_signList 36 = .ok (.iload_n 1, 1) := by decide +kernel
theorem dX4_signList_37 : decode cX4_signList 37 = .ok (.invokevirtual 38, 3) := by decide +kernel
theorem dX4_signList_40 : decode cX4_signList 40 = .ok (.checkcast 42, 3) := by decide +kernel
theorem dX4_signList_43 : decode cX4_signList 43 = .ok (.iconst 4, 1) := by decide +kernel
theorem dX4_signList_44 : decode cX4_signList 44 = .ok (.iload_n 2, 1) := by decide +kernel
theorem dX4_signList_45 : decode cX4_signList 45 = .ok (.aload_n 0, 1) := by decide +kernel
theorem dX4_signList_46 : decode cX4_signList 46 = .ok (.getfield 16, 3) := by decide +kernel
theorem dX4_signList_49 : decode cX4_signList 49 = .ok (.iload_n 1, 1) := by decide +kernel
theorem dX4_signList_50 : decode cX4_signList 50 = .ok (.invokevirtual 38, 3) := by decide +kernel
theorem dX4_signList_53 : decode cX4_signList 53 = .ok (.checkcast 42, 3) := by decide +kernel
theorem dX4_signList_56 : decode cX4_signList 56 = .ok (.invokestatic 103, 3) := by decide +kernel
theorem dX4_signList_59 : decode cX4_signList 59 = .ok (.invokestatic 47, 3) := by decide +kernel
theorem dX4_signList_62 : decode cX4_signList 62 = .ok (.iastore, 1) := by decide +kernel
theorem dX4_signList_63 : decode cX4_signList 63 = .ok (.aload_n 0, 1) := by decide +kernel
theorem dX4_signList_64 : decode cX4_signList 64 = .ok (.getfield 16, 3) := by decide +kernel
theorem dX4_signList_67 : decode cX4_signList 67 = .ok (.iload_n 1, 1) := by decide +kernel
theorem dX4_signList_68 : decode cX4_signList 68 = .ok (.invokevirtual 38, 3) := by decide +kernel
theorem dX4_signList_71 : decode cX4_signList 71 = .ok (.checkcast 42, 3) := by decide +kernel
theorem dX4_signList_74 : decode cX4_signList 74 = .ok (.iconst 4, 1) := by decide +kernel
theorem dX4_signList_75 : decode cX4_signList 75 = .ok (.iaload, 1) := by decide +kernel
theorem dX4_signList_76 : decode cX4_signList 76 = .ok (.ireturn, 1) := by decide +kernel
theorem dX4_strict_0 : decode cX4_strict 0 = .ok (.aload_n 0, 1) := by decide +kernel
theorem dX4_strict_1 : decode cX4_strict 1 = .ok (.iconst 0, 1) := by decide +kernel
theorem dX4_strict_2 : decode cX4_strict 2 = .ok (.putfield 22, 3) := by decide +kernel
theorem dX4_strict_5 : decode cX4_strict 5 = .ok (.aload_n 0, 1) := by decide +kernel
theorem dX4_strict_6 : decode cX4_strict 6 = .ok (.getfield 106, 3) := by decide +kernel
theorem dX4_strict_9 : decode cX4_strict 9 = .ok (.istore_n 2, 1) := by decide +kernel
theorem dX4_strict_10 : decode cX4_strict 10 = .ok (.aload_n 0, 1) := by decide +kernel
theorem dX4_strict_11 : decode cX4_strict 11 = .ok (.iload_n 1, 1) := by decide +kernel
theorem dX4_strict_12 : decode cX4_strict 12 = .ok (.putfield 106, 3) := by decide +kernel
theorem dX4_strict_15 : decode cX4_strict 15 = .ok (.iload_n 2, 1) := by decide +kernel
theorem dX4_strict_16 : decode cX4_strict 16 = .ok (.ireturn, 1) := by decide +kernel
theorem dX4_manyNow_0 : decode cX4_manyNow 0 = .ok (.iload_n 1, 1) := by decide +kernel
theorem dX4_manyNow_1 : decode cX4_manyNow 1 = .ok (.iconst 3, 1) := by decide +kernel
theorem dX4_manyNow_2 : decode cX4_manyNow 2 = .ok (.if_icmp .ge 37, 3) := by decide +kernel
theorem dX4_manyNow_5 : decode cX4_manyNow 5 = .ok (.iload_n 1, 1) := by decide +kernel
theorem dX4_manyNow_6 : decode cX4_manyNow 6 = .ok (.ifCond .ne 13, 3) := by decide +kernel
theorem dX4_manyNow_9 : decode cX4_manyNow 9 = .ok (.aload_n 0, 1) := by decide +kernel
theorem dX4_manyNow_10 : decode cX4_manyNow 10 = .ok (.getfield 10, 3) := by decide +kernel
theorem dX4_manyNow_13 : decode cX4_manyNow 13 = .ok (.invokevirtual 54, 3) := by decide +kernel
theorem dX4_manyNow_16 : decode cX4_manyNow 16 = .ok (.goto 22, 3) := by decide +kernel
theorem dX4_manyNow_19 : decode cX4_manyNow 19 = .ok (.iload_n 1, 1) := by decide +kernel
theorem dX4_manyNow_20 : decode cX4_manyNow 20 = .ok (.iconst 1, 1) := by decide +kernel
theorem dX4_manyNow_21 : decode cX4_manyNow 21 = .ok (.if_icmp .ne 10, 3) := by decide +kernel
theorem dX4_manyNow_24 : decode cX4_manyNow 24 = .ok (.aload_n 0, 1) := by decide +kernel
theorem dX4_manyNow_25 : decode cX4_manyNow 25 = .ok (.invokevirtual 166, 3) := by decide +kernel
theorem dX4_manyNow_28 : decode cX4_manyNow 28 = .ok (.goto 10, 3) := by decide +kernel
theorem dX4_manyNow_31 : decode cX4_manyNow 31 = .ok (.aload_n 0, 1) := by decide +kernel
theorem dX4_manyNow_32 : decode cX4_manyNow 32 = .ok (.getfield 16, 3) := by decide +kernel
theorem dX4_manyNow_35 : decode cX4_manyNow 35 = .ok (.invokevirtual 54, 3) := by decide +kernel
theorem dX4_manyNow_38 : decode cX4_manyNow 38 = .ok (.ireturn, 1) := by decide +kernel
theorem dX4_manyNow_39 : decode cX4_manyNow 39 = .ok (.aload_n 0, 1) := by decide +kernel
theorem dX4_manyNow_40 : decode cX4_manyNow 40 = .ok (.invokevirtual 72, 3) := by decide +kernel
theorem dX4_manyNow_43 : decode cX4_manyNow 43 = .ok (.iconst 0, 1) := by decide +kernel
theorem dX4_manyNow_44 : decode cX4_manyNow 44 = .ok (.istore_n 2, 1) := by decide +kernel
theorem dX4_manyNow_45 : decode cX4_manyNow 45 = .ok (.aload_n 0, 1) := by decide +kernel
theorem dX4_manyNow_46 : decode cX4_manyNow 46 = .ok (.getfield 51, 3) := by decide +kernel
theorem dX4_manyNow_49 : decode cX4_manyNow 49 = .ok (.astore_n 3, 1) := by decide +kernel
theorem dX4_manyNow_50 : decode cX4_manyNow 50 = .ok (.aload_n 3, 1) := by decide +kernel
theorem dX4_manyNow_51 : decode cX4_manyNow 51 = .ok (.arraylength, 1) := by decide +kernel
theorem dX4_manyNow_52 : decode cX4_manyNow 52 = .ok (.istore 4, 2) := by decide +kernel
theorem dX4_manyNow_54 : decode cX4_manyNow 54 = .ok (.iconst 0, 1) := by decide +kernel
theorem dX4_manyNow_55 : decode cX4_manyNow 55 = .ok (.istore 5, 2) := by decide +kernel
theorem dX4_manyNow_57 : decode cX4_manyNow 57 = .ok (.iload 5, 2) := by decide +kernel
theorem dX4_manyNow_59 : decode cX4_manyNow 59 = .ok (.iload 4, 2) := by decide +kernel
theorem dX4_manyNow_61 : decode cX4_manyNow 61 = .ok (.if_icmp .ge 23, 3) := by decide +kernel
theorem dX4_manyNow_64 : decode cX4_manyNow 64 = .ok (.aload_n 3, 1) := by decide +kernel
theorem dX4_manyNow_65 : decode cX4_manyNow 65 = .ok (.iload 5, 2) := by decide +kernel
theorem dX4_manyNow_67 : decode cX4_manyNow 67 = .ok (.iaload, 1) := by decide +kernel
theorem dX4_manyNow_68 : decode cX4_manyNow 68 = .ok (.istore 6, 2) := by decide +kernel
theorem dX4_manyNow_70 : decode cX4_manyNow 70 = .ok (.iload_n 2, 1) := by decide +kernel
theorem dX4_manyNow_71 : decode cX4_manyNow 71 = .ok (.iload 6, 2) := by decide +kernel
theorem dX4_manyNow_73 : decode cX4_manyNow 73 = .ok (.invokestatic 172, 3) := by decide +kernel
theorem dX4_manyNow_76 : decode cX4_manyNow 76 = .ok (.iadd, 1) := by decide +kernel
theorem dX4_manyNow_77 : decode cX4_manyNow 77 = .ok (.istore_n 2, 1) := by decide +kernel
theorem dX4_manyNow_78 : decode cX4_manyNow 78 = .ok (.iinc 5 1, 3) := by decide +kernel
theorem dX4_manyNow_81 : decode cX4_manyNow 81 = .ok (.goto (-24), 3) := by decide +kernel
theorem dX4_manyNow_84 : decode cX4_manyNow 84 = .ok (.iload_n 2, 1) := by decide +kernel
theorem dX4_manyNow_85 : decode cX4_manyNow 85 = .ok (.ireturn, 1) := by decide +kernel
theorem dX4_many_0 : decode cX4_many 0 = .ok (.aload_n 0, 1) := by decide +kernel
theorem dX4_many_1 : decode cX4_many 1 = .ok (.iconst 0, 1) := by decide +kernel
theorem dX4_many_2 : decode cX4_many 2 = .ok (.putfield 22, 3) := by decide +kernel
theorem dX4_many_5 : decode cX4_many 5 = .ok (.iload_n 1, 1) := by decide +kernel
theorem dX4_many_6 : decode cX4_many 6 = .ok (.iconst 0, 1) := by decide +kernel
theorem dX4_many_7 : decode cX4_many 7 = .ok (.iconst 3, 1) := by decide +kernel
theorem dX4_many_8 : decode cX4_many 8 = .ok (.invokestatic 26, 3) := by decide +kernel
theorem dX4_many_11 : decode cX4_many 11 = .ok (.ifCond .eq 11, 3) := by decide +kernel
theorem dX4_many_14 : decode cX4_many 14 = .ok (.aload_n 0, 1) := by decide +kernel
theorem dX4_many_15 : decode cX4_many 15 = .ok (.iload_n 1, 1) := by decide +kernel
theorem dX4_many_16 : decode cX4_many 16 = .ok (.invokevirtual 177, 3) := by decide +kernel
theorem dX4_many_19 : decode cX4_many 19 = .ok (.goto 8, 3) := by decide +kernel
theorem dX4_many_22 : decode cX4_many 22 = .ok (.aload_n 0, 1) := by decide +kernel
theorem dX4_many_23 : decode cX4_many 23 = .ok (.iconst 1, 1) := by decide +kernel
theorem dX4_many_24 : decode cX4_many 24 = .ok (.invokevirtual 149, 3) := by decide +kernel
theorem dX4_many_27 : decode cX4_many 27 = .ok (.ireturn, 1) := by decide +kernel
theorem dX4_ofLetterNow_0 : decode cX4_ofLetterNow 0 = .ok (.iload_n 1, 1) := by decide +kernel
theorem dX4_ofLetterNow_1 : decode cX4_ofLetterNow 1 = .ok (.bipush 11, 2) := by decide +kernel
theorem dX4_ofLetterNow_3 : decode cX4_ofLetterNow 3 = .ok (.if_icmp .ne 10, 3) := by decide +kernel
theorem dX4_ofLetterNow_6 : decode cX4_ofLetterNow 6 = .ok (.aload_n 0, 1) := by decide +kernel
theorem dX4_ofLetterNow_7 : decode cX4_ofLetterNow 7 = .ok (.invokestatic 44, 3) := by decide +kernel
theorem dX4_ofLetterNow_10 : decode cX4_ofLetterNow 10 = .ok (.goto 6, 3) := by decide +kernel
theorem dX4_ofLetterNow_13 : decode cX4_ofLetterNow 13 = .ok (.aload_n 0, 1) := by decide +kernel
theorem dX4_ofLetterNow_14 : decode cX4_ofLetterNow 14 = .ok (.iload_n 1, 1) := by decide +kernel
theorem dX4_ofLetterNow_15 : decode cX4_ofLetterNow 15 = .ok (.iaload, 1) := by decide +kernel
theorem dX4_ofLetterNow_16 : decode cX4_ofLetterNow 16 = .ok (.ireturn, 1) := by decide +kernel
theorem dX4_ofLetter_0 : decode cX4_ofLetter 0 = .ok (.aload_n 0, 1) := by decide +kernel
theorem dX4_ofLetter_1 : decode cX4_ofLetter 1 = .ok (.iconst 0, 1) := by decide +kernel
theorem dX4_ofLetter_2 : decode cX4_ofLetter 2 = .ok (.putfield 22, 3) := by decide +kernel
theorem dX4_ofLetter_5 : decode cX4_ofLetter 5 = .ok (.aload_n 0, 1) := by decide +kernel
theorem dX4_ofLetter_6 : decode cX4_ofLetter 6 = .ok (.iload_n 1, 1) := by decide +kernel
theorem dX4_ofLetter_7 : decode cX4_ofLetter 7 = .ok (.invokevirtual 156, 3) := by decide +kernel
theorem dX4_ofLetter_10 : decode cX4_ofLetter 10 = .ok (.ifCond .ne 9, 3) := by decide +kernel
theorem dX4_ofLetter_13 : decode cX4_ofLetter 13 = .ok (.aload_n 0, 1) := by decide +kernel
theorem dX4_ofLetter_14 : decode cX4_ofLetter 14 = .ok (.iconst 1, 1) := by decide +kernel
theorem dX4_ofLetter_15 : decode cX4_ofLetter 15 = .ok (.invokevirtual 149, 3) := by decide +kernel
theorem dX4_ofLetter_18 : decode cX4_ofLetter 18 = .ok (.ireturn, 1) := by decide +kernel
theorem dX4_ofLetter_19 : decode cX4_ofLetter 19 = .ok (.iload_n 2, 1) := by decide +kernel
theorem dX4_ofLetter_20 : decode cX4_ofLetter 20 = .ok (.iconst 0, 1) := by decide +kernel
theorem dX4_ofLetter_21 : decode cX4_ofLetter 21 = .ok (.bipush 12, 2) := by decide +kernel
theorem dX4_ofLetter_23 : decode cX4_ofLetter 23 = .ok (.invokestatic 26, 3) := by decide +kernel
theorem dX4_ofLetter_26 : decode cX4_ofLetter 26 = .ok (.ifCond .eq 21, 3) := by decide +kernel
theorem dX4_ofLetter_29 : decode cX4_ofLetter 29 = .ok (.aload_n 0, 1) := by decide +kernel
theorem dX4_ofLetter_30 : decode cX4_ofLetter 30 = .ok (.getfield 10, 3) := by decide +kernel
theorem dX4_ofLetter_33 : decode cX4_ofLetter 33 = .ok (.iload_n 1, 1) := by decide +kernel
theorem dX4_ofLetter_34 : decode cX4_ofLetter 34 = .ok (.invokevirtual 38, 3) := by decide +kernel
theorem dX4_ofLetter_37 : decode cX4_ofLetter 37 = .ok (.checkcast 42, 3) := by decide +kernel
theorem dX4_ofLetter_40 : decode cX4_ofLetter 40 = .ok (.iload_n 2, 1) := by decide +kernel
theorem dX4_ofLetter_41 : decode cX4_ofLetter 41 = .ok (.invokestatic 180, 3) := by decide +kernel
theorem dX4_ofLetter_44 : decode cX4_ofLetter 44 = .ok (.goto 8, 3) := by decide +kernel
theorem dX4_ofLetter_47 : decode cX4_ofLetter 47 = .ok (.aload_n 0, 1) := by decide +kernel
theorem dX4_ofLetter_48 : decode cX4_ofLetter 48 = .ok (.iconst 2, 1) := by decide +kernel
theorem dX4_ofLetter_49 : decode cX4_ofLetter 49 = .ok (.invokevirtual 149, 3) := by decide +kernel
theorem dX4_ofLetter_52 : decode cX4_ofLetter 52 = .ok (.ireturn, 1) := by decide +kernel
theorem dX4_ofListNow_0 : decode cX4_ofListNow 0 = .ok (.iload_n 1, 1) := by decide +kernel
theorem dX4_ofListNow_1 : decode cX4_ofListNow 1 = .ok (.iconst 5, 1) := by decide +kernel
theorem dX4_ofListNow_2 : decode cX4_ofListNow 2 = .ok (.if_icmp .ne 10, 3) := by decide +kernel
theorem dX4_ofListNow_5 : decode cX4_ofListNow 5 = .ok (.aload_n 0, 1) := by decide +kernel
theorem dX4_ofListNow_6 : decode cX4_ofListNow 6 = .ok (.invokestatic 103, 3) := by decide +kernel
theorem dX4_ofListNow_9 : decode cX4_ofListNow 9 = .ok (.goto 6, 3) := by decide +kernel
theorem dX4_ofListNow_12 : decode cX4_ofListNow 12 = .ok (.aload_n 0, 1) := by decide +kernel
theorem dX4_ofListNow_13 : decode cX4_ofListNow 13 = .ok (.iload_n 1, 1) := by decide +kernel
theorem dX4_ofListNow_14 : decode cX4_ofListNow 14 = .ok (.iaload, 1) := by decide +kernel
theorem dX4_ofListNow_15 : decode cX4_ofListNow 15 = .ok (.ireturn, 1) := by decide +kernel
theorem dX4_ofList_0 : decode cX4_ofList 0 = .ok (.aload_n 0, 1) := by decide +kernel
theorem dX4_ofList_1 : decode cX4_ofList 1 = .ok (.iconst 0, 1) := by decide +kernel
theorem dX4_ofList_2 : decode cX4_ofList 2 = .ok (.putfield 22, 3) := by decide +kernel
theorem dX4_ofList_5 : decode cX4_ofList 5 = .ok (.aload_n 0, 1) := by decide +kernel
theorem dX4_ofList_6 : decode cX4_ofList 6 = .ok (.iload_n 1, 1) := by decide +kernel
theorem dX4_ofList_7 : decode cX4_ofList 7 = .ok (.invokevirtual 169, 3) := by decide +kernel
theorem dX4_ofList_10 : decode cX4_ofList 10 = .ok (.ifCond .ne 9, 3) := by decide +kernel
theorem dX4_ofList_13 : decode cX4_ofList 13 = .ok (.aload_n 0, 1) := by decide +kernel
theorem dX4_ofList_14 : decode cX4_ofList 14 = .ok (.iconst 1, 1) := by decide +kernel
theorem dX4_ofList_15 : decode cX4_ofList 15 = .ok (.invokevirtual 149, 3) := by decide +kernel
theorem dX4_ofList_18 : decode cX4_ofList 18 = .ok (.ireturn, 1) := by decide +kernel
theorem dX4_ofList_19 : decode cX4_ofList 19 = .ok (.iload_n 2, 1) := by decide +kernel
theorem dX4_ofList_20 : decode cX4_ofList 20 = .ok (.iconst 0, 1) := by decide +kernel
theorem dX4_ofList_21 : decode cX4_ofList 21 = .ok (.iconst 5, 1) := by decide +kernel
theorem dX4_ofList_22 : decode cX4_ofList 22 = .ok (.invokestatic 26, 3) := by decide +kernel
theorem dX4_ofList_25 : decode cX4_ofList 25 = .ok (.ifCond .eq 21, 3) := by decide +kernel
theorem dX4_ofList_28 : decode cX4_ofList 28 = .ok (.aload_n 0, 1) := by decide +kernel
theorem dX4_ofList_29 : decode cX4_ofList 29 = .ok (.getfield 16, 3) := by decide +kernel
theorem dX4_ofList_32 : decode cX4_ofList 32 = .ok (.iload_n 1, 1) := by decide +kernel
theorem dX4_ofList_33 : decode cX4_ofList 33 = .ok (.invokevirtual 38, 3) := by decide +kernel
theorem dX4_ofList_36 : decode cX4_ofList 36 = .ok (.checkcast 42, 3) := by decide +kernel
theorem dX4_ofList_39 : decode cX4_ofList 39 = .ok (.iload_n 2, 1) := by decide +kernel
theorem dX4_ofList_40 : decode cX4_ofList 40 = .ok (.invokestatic 184, 3) := by decide +kernel
theorem dX4_ofList_43 : decode cX4_ofList 43 = .ok (.goto 8, 3) := by decide +kernel
theorem dX4_ofList_46 : decode cX4_ofList 46 = .ok (.aload_n 0, 1) := by decide +kernel
theorem dX4_ofList_47 : decode cX4_ofList 47 = .ok (.iconst 2, 1) := by decide +kernel
theorem dX4_ofList_48 : decode cX4_ofList 48 = .ok (.invokevirtual 149, 3) := by decide +kernel
theorem dX4_ofList_51 : decode cX4_ofList 51 = .ok (.ireturn, 1) := by decide +kernel
theorem dX4_signed_0 : decode cX4_signed 0 = .ok (.aload_n 0, 1) := by decide +kernel
theorem dX4_signed_1 : decode cX4_signed 1 = .ok (.iconst 0, 1) := by decide +kernel
theorem dX4_signed_2 : decode cX4_signed 2 = .ok (.putfield 22, 3) := by decide +kernel
theorem dX4_signed_5 : decode cX4_signed 5 = .ok (.iload_n 1, 1) := by decide +kernel
theorem dX4_signed_6 : decode cX4_signed 6 = .ok (.invokestatic 146, 3) := by decide +kernel
theorem dX4_signed_9 : decode cX4_signed 9 = .ok (.ifCond .eq 18, 3) := by decide +kernel
theorem dX4_signed_12 : decode cX4_signed 12 = .ok (.iload_n 2, 1) := by decide +kernel
theorem dX4_signed_13 : decode cX4_signed 13 = .ok (.invokestatic 187, 3) := by decide +kernel
theorem dX4_signed_16 : decode cX4_signed 16 = .ok (.ifCond .eq 11, 3) := by decide +kernel
theorem dX4_signed_19 : decode cX4_signed 19 = .ok (.iload_n 1, 1) := by decide +kernel
theorem dX4_signed_20 : decode cX4_signed 20 = .ok (.iload_n 2, 1) := by decide +kernel
theorem dX4_signed_21 : decode cX4_signed 21 = .ok (.invokestatic 47, 3) := by decide +kernel
theorem dX4_signed_24 : decode cX4_signed 24 = .ok (.goto 8, 3) := by decide +kernel
theorem dX4_signed_27 : decode cX4_signed 27 = .ok (.aload_n 0, 1) := by decide +kernel
theorem dX4_signed_28 : decode cX4_signed 28 = .ok (.iconst 1, 1) := by decide +kernel
theorem dX4_signed_29 : decode cX4_signed 29 = .ok (.invokevirtual 149, 3) := by decide +kernel
theorem dX4_signed_32 : decode cX4_signed 32 = .ok (.ireturn, 1) := by decide +kernel
theorem dX4_signer_0 : decode cX4_signer 0 = .ok (.aload_n 0, 1) := by decide +kernel
theorem dX4_signer_1 : decode cX4_signer 1 = .ok (.iconst 0, 1) := by decide +kernel
theorem dX4_signer_2 : decode cX4_signer 2 = .ok (.putfield 22, 3) := by decide +kernel
theorem dX4_signer_5 : decode cX4_signer 5 = .ok (.iload_n 1, 1) := by decide +kernel
theorem dX4_signer_6 : decode cX4_signer 6 = .ok (.invokestatic 187, 3) := by decide +kernel
theorem dX4_signer_9 : decode cX4_signer 9 = .ok (.ifCond .eq 10, 3) := by decide +kernel
theorem dX4_signer_12 : decode cX4_signer 12 = .ok (.iload_n 2, 1) := by decide +kernel
theorem dX4_signer_13 : decode cX4_signer 13 = .ok (.invokestatic 187, 3) := by decide +kernel
theorem dX4_signer_16 : decode cX4_signer 16 = .ok (.ifCond .ne 9, 3) := by decide +kernel
theorem dX4_signer_19 : decode cX4_signer 19 = .ok (.aload_n 0, 1) := by decide +kernel
theorem dX4_signer_20 : decode cX4_signer 20 = .ok (.iconst 1, 1) := by decide +kernel
