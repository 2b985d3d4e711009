/-! names, printed: 11 -/
set_option maxRecDepth 100000 in
set_option maxHeartbeats 4000000 in
theorem ggL_isOf_X3_isOf : GoodIn wsL_isOf wsX3_isOf := goodIn_ca (goodIn_r _ [6, 7, 8, 9, 10, 11, 5, 12, 13, 14, 15, 16, 17, 18, 19, 20, 21, 22, 23, 24, 25, 26, 27, 28, 29, 30, 31, 32, 33, 34, 35, 36, 37, 38, 39, 40, 41, 42, 43, 44, 45, 46, 47, 48, 49, 50, 51, 52, 53, 54, 55, 56, 57, 58, 59, 60, 61, 62, 63, 64, 65, 66, 67, 68, 69, 70, 71, 72, 73, 74, 75, 76, 77, 78, 79, 80, 81, 82, 83, 84, 85, 86, 87, 88, 89, 90, 91, 92, 93, 94, 95, 96, 97, 98, 99, 100, 101, 102, 103, 104, 105, 106, 107, 108, 109, 110, 111, 112, 113, 114, 115, 116, 117, 118, 119, 120, 121, 122, 123, 124, 125, 126, 127, 128, 129, 130, 131, 132, 133, 134, 135, 136, 137, 138, 139, 140, 141, 142, 143, 144, 145, 146, 147, 148, 149, 150, 151, 152, 153, 154, 155, 156, 157, 158, 159, 160, 161, 162, 163, 164, 165, 166, 167, 168, 169, 170, 171, 172, 173, 174, 175, 176, 177, 178, 179, 180, 181, 182, 183, 184] rfl (by decide +kernel)) (goodIn_sub (fun _ h => List.mem_cons_of_mem _ (List.mem_append_right _ h)) (by decide +kernel))
set_option maxRecDepth 20000 in
theorem gL_isOf_X3_isOf : GoodIn wsL_isOf (wsV RL 82 RX3 yX3_isOf wsX3_isOf) := goodIn_app (goodIn_of _ (by decide +kernel)) ggL_isOf_X3_isOf
set_option maxRecDepth 100000 in
set_option maxHeartbeats 4000000 in
theorem ggL_meanChain_X3_meanChain : GoodIn wsL_meanChain wsX3_meanChain := goodIn_ca (goodIn_r _ [6, 7, 8, 9, 10, 5, 11, 12, 13, 14, 15, 16, 17, 18, 19, 20, 21, 22, 23, 24, 25, 26, 27, 28, 29, 30, 31, 32, 33, 34, 35, 36, 37, 38, 39, 40, 41, 42, 43, 44, 45, 46, 47, 48, 49, 50, 51, 52, 53, 54, 55, 56, 57, 58, 59, 60, 61, 62, 63, 64, 65, 66, 67, 68, 69, 70, 71, 72, 73, 74, 75, 76, 77, 78, 79, 80, 81, 82, 83, 84, 85, 86, 87, 88, 89, 90, 91, 92, 93, 94, 95, 96, 97, 98, 99, 100, 101, 102, 103, 104, 105, 106, 107, 108, 109, 110, 111, 112, 113, 114, 115, 116, 117, 118, 119, 120, 121, 122, 123, 124, 125, 126, 127, 128, 129, 130, 131, 132, 133, 134, 135, 136, 137, 138, 139, 140, 141, 142, 143, 144, 145, 146, 147, 148, 149, 150, 151, 152, 153, 154, 155, 156, 157, 158, 159, 160, 161, 162, 163, 164, 165, 166, 167, 168, 169, 170, 171, 172, 173, 174, 175, 176, 177, 178] rfl (by decide +kernel)) (goodIn_sub (fun _ h => List.mem_cons_of_mem _ (List.mem_append_right _ h)) (by decide +kernel))
set_option maxRecDepth 20000 in
theorem gL_meanChain_X3_meanChain : GoodIn wsL_meanChain (wsV RL 86 RX3 yX3_meanChain wsX3_meanChain) := goodIn_app (goodIn_of _ (by decide +kernel)) ggL_meanChain_X3_meanChain
set_option maxRecDepth 100000 in
set_option maxHeartbeats 4000000 in
theorem ggL_holdsTo_X3_holdsTo : GoodIn wsL_holdsTo wsX3_holdsTo := goodIn_ca (goodIn_ca (goodIn_r _ [7, 8, 9, 10, 11, 6, 12, 13, 14, 15, 16, 17, 18, 19, 20, 21, 22, 23, 24, 25, 26, 27, 28, 29, 30, 31, 32, 33, 34, 35, 36, 37, 38, 39, 40, 41, 42, 43, 44, 45, 46, 47, 48, 49, 50, 51, 52, 53, 54, 55, 56, 57, 58, 59, 60, 61, 62, 63, 64, 65, 66, 67, 68, 69, 70, 71, 72, 73, 74, 75, 76, 77, 78, 79, 80, 81, 82, 83, 84, 85, 86, 87, 88, 89, 90, 91, 92, 93, 94, 95, 96, 97, 98, 99, 100, 101, 102, 103, 104, 105, 106, 107, 108, 109, 110, 111, 112, 113, 114, 115, 116, 117, 118, 119, 120, 121, 122, 123, 124, 125, 126, 127, 128, 129, 130, 131, 132, 133, 134, 135, 136, 137, 138, 139, 140, 141, 142, 143, 144, 145, 146, 147, 148, 149, 150, 151, 152, 153, 154, 155, 156, 157, 158, 159, 160, 161, 162, 163, 164, 165, 166, 167, 168, 169, 170, 171, 172, 173, 174, 175, 176, 177, 178, 179, 180, 181, 182, 183, 184, 185] rfl (by decide +kernel)) (goodIn_sub (fun _ h => List.mem_cons_of_mem _ (List.mem_append_left _ (List.mem_append_right _ h))) (by decide +kernel))) (goodIn_sub (fun _ h => List.mem_cons_of_mem _ (List.mem_append_right _ h)) (by decide +kernel))
set_option maxRecDepth 20000 in
theorem gL_holdsTo_X3_holdsTo : GoodIn wsL_holdsTo (wsV RL 90 RX3 yX3_holdsTo wsX3_holdsTo) := goodIn_app (goodIn_of _ (by decide +kernel)) ggL_holdsTo_X3_holdsTo
set_option maxRecDepth 100000 in
set_option maxHeartbeats 4000000 in
theorem ggL_otherwise_X3_otherwise : GoodIn wsL_otherwise wsX3_otherwise := goodIn_ca (goodIn_ca (goodIn_r _ [7, 8, 9, 10, 11, 12, 13, 14, 6, 15, 16, 17, 18, 19, 20, 21, 22, 23, 24, 25, 26, 27, 28, 29, 30, 31, 32, 33, 34, 35, 36, 37, 38, 39, 40, 41, 42, 43, 44, 45, 46, 47, 48, 49, 50, 51, 52, 53, 54, 55, 56, 57, 58, 59, 60, 61, 62, 63, 64, 65, 66, 67, 68, 69, 70, 71, 72, 73, 74, 75, 76, 77, 78, 79, 80, 81, 82, 83, 84, 85, 86, 87, 88, 89, 90, 91, 92, 93, 94, 95, 96, 97, 98, 99, 100, 101, 102, 103, 104, 105, 106, 107, 108, 109, 110, 111, 112, 113, 114, 115, 116, 117, 118, 119, 120, 121, 122, 123, 124, 125, 126, 127, 128, 129, 130, 131, 132, 133, 134, 135, 136, 137, 138, 139, 140, 141, 142, 143, 144, 145, 146, 147, 148, 149, 150, 151, 152, 153, 154, 155, 156, 157, 158, 159, 160, 161, 162, 163, 164, 165, 166, 167, 168, 169, 170, 171, 172, 173, 174, 175, 176, 177, 178, 179, 180, 181, 182, 183, 184, 185, 186, 187, 188, 189, 190, 191, 192, 193] rfl (by decide +kernel)) (goodIn_sub (fun _ h => List.mem_cons_of_mem _ (List.mem_append_left _ (List.mem_append_right _ h))) (by decide +kernel))) (goodIn_sub (fun _ h => List.mem_cons_of_mem _ (List.mem_append_right _ h)) (by decide +kernel))
set_option maxRecDepth 20000 in
theorem gL_otherwise_X3_otherwise : GoodIn wsL_otherwise (wsV RL 93 RX3 yX3_otherwise wsX3_otherwise) := goodIn_app (goodIn_of _ (by decide +kernel)) ggL_otherwise_X3_otherwise
set_option maxRecDepth 100000 in
set_option maxHeartbeats 4000000 in
theorem ggL_stolen_X3_stolen : GoodIn wsL_stolen wsX3_stolen := goodIn_ca (goodIn_r _ [6, 7, 8, 9, 10, 5, 11, 12, 13, 14, 15, 16, 17, 18, 19, 20, 21, 22, 23, 24, 25, 26, 27, 28, 29, 30, 31, 32, 33, 34, 35, 36, 37, 38, 39, 40, 41, 42, 43, 44, 45, 46, 47, 48, 49, 50, 51, 52, 53, 54, 55, 56, 57, 58, 59, 60, 61, 62, 63, 64, 65, 66, 67, 68, 69, 70, 71, 72, 73, 74, 75, 76, 77, 78, 79, 80, 81, 82, 83, 84, 85, 86, 87, 88, 89, 90, 91, 92, 93, 94, 95, 96, 97, 98, 99, 100, 101, 102, 103, 104, 105, 106, 107, 108, 109, 110, 111, 112, 113, 114, 115, 116, 117, 118, 119, 120, 121, 122, 123, 124, 125, 126, 127, 128, 129, 130, 131, 132, 133, 134, 135, 136, 137, 138, 139, 140, 141, 142, 143, 144, 145, 146, 147, 148, 149, 150, 151, 152, 153, 154, 155, 156, 157, 158, 159, 160, 161, 162, 163, 164, 165, 166, 167, 168, 169, 170, 171, 172, 173, 174, 175, 176, 177, 178, 179, 180, 181, 182, 183, 184, 185] rfl (by decide +kernel)) (goodIn_sub (fun _ h => List.mem_cons_of_mem _ (List.mem_append_right _ h)) (by decide +kernel))
set_option maxRecDepth 20000 in
theorem gL_stolen_X3_stolen : GoodIn wsL_stolen (wsV RL 96 RX3 yX3_stolen wsX3_stolen) := goodIn_app (goodIn_of _ (by decide +kernel)) ggL_stolen_X3_stolen
set_option maxRecDepth 100000 in
set_option maxHeartbeats 4000000 in
theorem ggL_law_X3_init : GoodIn wsL_law wsX3_init := goodIn_r _ [10, 11, 12, 13, 14, 15, 16, 17, 18, 19, 20, 21, 22, 23, 24, 25, 26, 27, 28, 29, 30, 31, 32, 33, 34, 35, 36, 37, 38, 39, 40, 41, 42, 43, 44, 816, 817, 818, 819, 820, 821, 822, 831, 832, 833, 834, 835, 836, 837, 838, 839, 840, 841, 842, 843, 844, 845, 846, 847, 848, 849, 850, 851, 852, 853, 854, 855] rfl (by decide +kernel)
set_option maxRecDepth 20000 in
theorem gL_law_X3_init : GoodIn wsL_law (wsX3_init) := ggL_law_X3_init
set_option maxRecDepth 100000 in
set_option maxHeartbeats 4000000 in
theorem ggL_law_X4_init : GoodIn wsL_law wsX4_init := goodIn_r _ [47, 48, 12, 13, 49, 50, 51, 52, 53, 54, 55, 56, 57, 58, 59, 60, 61, 62, 63, 64, 65, 66, 67, 68, 69, 856, 857, 858, 823, 824, 825, 826, 827, 828, 829, 830] rfl (by decide +kernel)
set_option maxRecDepth 20000 in
theorem gL_law_X4_init : GoodIn wsL_law (wsX4_init) := ggL_law_X4_init
set_option maxRecDepth 100000 in
set_option maxHeartbeats 4000000 in
theorem ggL_law_L_letter : GoodIn wsL_law wsL_letter := goodIn_ca (goodIn_ca (goodIn_r _ [73, 74, 75, 76, 77, 78, 2, 79, 80, 81, 82, 15, 83, 84, 85, 86, 87, 88, 89, 90, 91, 92, 93, 94, 95, 96, 97, 98, 99, 100, 25, 101, 102, 103, 104, 105, 106, 816, 817, 818, 819, 820, 821, 822, 838, 839, 840, 841, 842, 843, 844, 845, 846, 847, 848, 849] rfl (by decide +kernel)) (goodIn_sub (fun _ h => List.mem_append_left _ (List.mem_append_left _ (List.mem_append_right _ h))) (by decide +kernel))) (goodIn_sub (fun _ h => List.mem_append_left _ (List.mem_append_right _ h)) (by decide +kernel))
set_option maxRecDepth 20000 in
theorem gL_law_L_letter : GoodIn wsL_law (va_wsS RL 103 yL_letter wsL_letter) := goodIn_app (goodIn_of _ (by decide +kernel)) ggL_law_L_letter
set_option maxRecDepth 100000 in
set_option maxHeartbeats 4000000 in
theorem ggL_law_X4_letter : GoodIn wsL_law wsX4_letter := goodIn_r _ [110, 111, 52, 22, 112, 113, 5, 114, 115, 116, 117, 118, 119, 120, 121, 122, 123, 124, 125, 126, 127, 51, 128, 129, 130, 131, 132, 133, 134, 135, 59, 136, 137, 138, 139, 140, 141, 142, 143, 144, 145, 146, 147, 58, 148, 149, 150, 151, 152, 153, 154, 155, 156, 157, 158, 159, 160, 161, 162, 163, 164, 165, 166, 167, 168, 169, 170, 171, 172, 173, 174, 175, 176, 177, 178, 179, 180, 181, 182, 183, 184, 185, 186, 823, 824, 825, 826, 827, 828, 829, 830, 856, 857, 858] rfl (by decide +kernel)
set_option maxRecDepth 20000 in
theorem gL_law_X4_letter : GoodIn wsL_law (wsV RL 108 RX4 yX4_letter wsX4_letter) := goodIn_app (goodIn_of _ (by decide +kernel)) ggL_law_X4_letter
set_option maxRecDepth 100000 in
set_option maxHeartbeats 4000000 in
theorem ggL_law_X4_thrown : GoodIn wsL_law wsX4_thrown := goodIn_r _ [190, 111, 823, 824, 825, 826, 827, 828, 829, 830] rfl (by decide +kernel)
set_option maxRecDepth 20000 in
theorem gL_law_X4_thrown : GoodIn wsL_law (wsV RL 109 RX4 yX4_thrown wsX4_thrown) := goodIn_app (goodIn_of _ (by decide +kernel)) ggL_law_X4_thrown
set_option maxRecDepth 100000 in
set_option maxHeartbeats 4000000 in
theorem ggL_law_L_times : GoodIn wsL_law wsL_times := goodIn_ca (goodIn_ca (goodIn_r _ [193, 194, 74, 195, 196, 197, 2, 198, 15, 199, 200, 201, 202, 203, 204, 205, 206, 207, 208, 82, 209, 210, 211, 89, 90, 91, 95, 96, 97, 98, 99, 212, 25, 213, 214, 103, 104, 105, 106, 215, 40, 216, 217, 41, 218, 219, 220, 816, 817, 818, 819, 820, 821, 822, 838, 839, 840, 841, 842, 843, 844, 845, 846, 847, 848, 849] rfl (by decide +kernel)) (goodIn_sub (fun _ h => List.mem_append_right _ h) (by decide +kernel))) (goodIn_sub (fun _ h => List.mem_append_left _ (List.mem_append_right _ h)) (by decide +kernel))
set_option maxRecDepth 20000 in
theorem gL_law_L_times : GoodIn wsL_law (va_wsS RL 113 yL_times wsL_times) := goodIn_app (goodIn_of _ (by decide +kernel)) ggL_law_L_times
set_option maxRecDepth 100000 in
set_option maxHeartbeats 4000000 in
theorem ggL_law_X4_times : GoodIn wsL_law wsX4_times := goodIn_r _ [224, 111, 225, 226, 227, 5, 228, 52, 125, 126, 127, 51, 128, 129, 115, 116, 117, 121, 122, 123, 124, 229, 230, 231, 232, 233, 234, 235, 236, 237, 238, 239, 240, 241, 242, 243, 244, 245, 246, 247, 248, 249, 250, 251, 252, 59, 182, 183, 184, 185, 186, 253, 254, 255, 256, 257, 258, 823, 824, 825, 826, 827, 828, 829, 830, 856, 857, 858] rfl (by decide +kernel)
set_option maxRecDepth 20000 in
theorem gL_law_X4_times : GoodIn wsL_law (wsV RL 116 RX4 yX4_times wsX4_times) := goodIn_app (goodIn_of _ (by decide +kernel)) ggL_law_X4_times
set_option maxRecDepth 100000 in
set_option maxHeartbeats 4000000 in
theorem ggL_law_L_master : GoodIn wsL_law wsL_master := goodIn_ca (goodIn_ca (goodIn_r _ [261, 194, 74, 262, 263, 264, 2, 265, 15, 199, 200, 201, 202, 203, 204, 205, 206, 207, 208, 82, 89, 90, 91, 95, 96, 97, 98, 99, 212, 25, 213, 214, 103, 104, 105, 106, 215, 40, 216, 217, 41, 218, 219, 220, 816, 817, 818, 819, 820, 821, 822, 838, 839, 840, 841, 842, 843, 844, 845, 846, 847, 848, 849] rfl (by decide +kernel)) (goodIn_sub (fun _ h => List.mem_append_right _ h) (by decide +kernel))) (goodIn_sub (fun _ h => List.mem_append_left _ (List.mem_append_right _ h)) (by decide +kernel))
set_option maxRecDepth 20000 in
theorem gL_law_L_master : GoodIn wsL_law (va_wsS RL 117 yL_master wsL_master) := goodIn_app (goodIn_of _ (by decide +kernel)) ggL_law_L_master
set_option maxRecDepth 100000 in
set_option maxHeartbeats 4000000 in
theorem ggL_law_X4_master : GoodIn wsL_law wsX4_master := goodIn_r _ [269, 111, 225, 226, 227, 5, 228, 52, 125, 126, 127, 51, 128, 129, 115, 116, 117, 121, 122, 123, 124, 232, 233, 234, 235, 236, 237, 238, 239, 240, 241, 242, 243, 244, 245, 246, 247, 248, 249, 250, 251, 252, 59, 182, 183, 184, 185, 186, 253, 254, 255, 256, 257, 258, 823, 824, 825, 826, 827, 828, 829, 830, 856, 857, 858] rfl (by decide +kernel)
set_option maxRecDepth 20000 in
theorem gL_law_X4_master : GoodIn wsL_law (wsV RL 120 RX4 yX4_master wsX4_master) := goodIn_app (goodIn_of _ (by decide +kernel)) ggL_law_X4_master
set_option maxRecDepth 100000 in
set_option maxHeartbeats 4000000 in
theorem ggL_law_L_good : GoodIn wsL_law wsL_good := goodIn_ca (goodIn_ca (goodIn_r _ [272, 194, 74, 273, 274, 275, 2, 276, 15, 199, 200, 201, 202, 203, 204, 205, 206, 207, 208, 82, 89, 90, 91, 277, 278, 279, 83, 84, 85, 95, 96, 97, 98, 99, 212, 25, 213, 214, 103, 104, 105, 106, 215, 40, 216, 217, 41, 218, 219, 220, 816, 817, 818, 819, 820, 821, 822, 838, 839, 840, 841, 842, 843, 844, 845, 846, 847, 848, 849] rfl (by decide +kernel)) (goodIn_sub (fun _ h => List.mem_append_right _ h) (by decide +kernel))) (goodIn_sub (fun _ h => List.mem_append_left _ (List.mem_append_right _ h)) (by decide +kernel))
set_option maxRecDepth 20000 in
theorem gL_law_L_good : GoodIn wsL_law (va_wsS RL 121 yL_good wsL_good) := goodIn_app (goodIn_of _ (by decide +kernel)) ggL_law_L_good
set_option maxRecDepth 100000 in
set_option maxHeartbeats 4000000 in
theorem ggL_law_X4_good : GoodIn wsL_law wsX4_good := goodIn_r _ [283, 111, 225, 226, 227, 5, 228, 52, 125, 126, 127, 51, 128, 129, 115, 116, 117, 121, 122, 123, 124, 284, 285, 286, 112, 113, 114, 232, 233, 234, 235, 236, 237, 238, 239, 240, 241, 242, 243, 244, 245, 246, 247, 248, 249, 250, 251, 252, 59, 182, 183, 184, 185, 186, 253, 254, 255, 256, 257, 258, 823, 824, 825, 826, 827, 828, 829, 830, 856, 857, 858] rfl (by decide +kernel)
set_option maxRecDepth 20000 in
theorem gL_law_X4_good : GoodIn wsL_law (wsV RL 123 RX4 yX4_good wsX4_good) := goodIn_app (goodIn_of _ (by decide +kernel)) ggL_law_X4_good
set_option maxRecDepth 100000 in
set_option maxHeartbeats 4000000 in
theorem ggL_law_L_sign : GoodIn wsL_law wsL_sign := goodIn_ca (goodIn_ca (goodIn_r _ [289, 194, 74, 290, 291, 292, 2, 293, 15, 199, 200, 201, 202, 203, 204, 205, 206, 207, 208, 82, 86, 87, 88, 89, 90, 91, 95, 96, 97, 98, 99, 212, 25, 213, 214, 103, 104, 105, 106, 215, 40, 216, 217, 41, 218, 219, 220, 294, 295, 296, 816, 817, 818, 819, 820, 821, 822, 838, 839, 840, 841, 842, 843, 844, 845, 846, 847, 848, 849] rfl (by decide +kernel)) (goodIn_sub (fun _ h => List.mem_append_right _ h) (by decide +kernel))) (goodIn_sub (fun _ h => List.mem_append_left _ (List.mem_append_right _ h)) (by decide +kernel))
set_option maxRecDepth 20000 in
theorem gL_law_L_sign : GoodIn wsL_law (va_wsS RL 124 yL_sign wsL_sign) := goodIn_app (goodIn_of _ (by decide +kernel)) ggL_law_L_sign
set_option maxRecDepth 100000 in
set_option maxHeartbeats 4000000 in
theorem ggL_law_X4_sign : GoodIn wsL_law wsX4_sign := goodIn_r _ [300, 111, 52, 236, 225, 226, 227, 5, 228, 125, 126, 127, 51, 128, 129, 115, 116, 117, 121, 122, 123, 124, 118, 119, 120, 237, 238, 239, 240, 241, 242, 243, 244, 245, 246, 247, 248, 249, 250, 251, 252, 59, 253, 254, 255, 256, 257, 258, 301, 302, 303, 182, 183, 184, 185, 186, 823, 824, 825, 826, 827, 828, 829, 830, 856, 857, 858] rfl (by decide +kernel)
set_option maxRecDepth 20000 in
theorem gL_law_X4_sign : GoodIn wsL_law (wsV RL 127 RX4 yX4_sign wsX4_sign) := goodIn_app (goodIn_of _ (by decide +kernel)) ggL_law_X4_sign
set_option maxRecDepth 100000 in
set_option maxHeartbeats 4000000 in
theorem ggL_law_L_anchor : GoodIn wsL_law wsL_anchor := goodIn_ca (goodIn_r _ [306, 194, 307, 308, 309, 2, 310, 15, 199, 200, 201, 202, 203, 204, 205, 206, 207, 208, 82, 311, 312, 313, 314, 315, 316, 317, 318, 319, 320, 321, 816, 817, 818, 819, 820, 821, 822, 838, 839, 840, 841, 842, 843, 844, 845, 846, 847, 848, 849] rfl (by decide +kernel)) (goodIn_sub (fun _ h => List.mem_append_right _ h) (by decide +kernel))
set_option maxRecDepth 20000 in
theorem gL_law_L_anchor : GoodIn wsL_law (va_wsS RL 128 yL_anchor wsL_anchor) := goodIn_app (goodIn_of _ (by decide +kernel)) ggL_law_L_anchor
set_option maxRecDepth 100000 in
set_option maxHeartbeats 4000000 in
theorem ggL_law_X4_anchor : GoodIn wsL_law wsX4_anchor := goodIn_r _ [325, 111, 52, 236, 225, 226, 227, 5, 228, 125, 126, 127, 51, 128, 129, 115, 116, 117, 121, 122, 123, 124, 237, 238, 239, 240, 241, 242, 243, 244, 245, 246, 247, 248, 249, 250, 251, 252, 59, 182, 183, 184, 185, 186, 326, 327, 328, 329, 330, 331, 332, 333, 334, 335, 336, 337, 338, 339, 340, 341, 12, 13, 342, 343, 135, 344, 345, 346, 347, 348, 349, 350, 351, 352, 353, 354, 355, 356, 357, 358, 823, 824, 825, 826, 827, 828, 829, 830, 856, 857, 858, 859, 860, 861, 862] rfl (by decide +kernel)
set_option maxRecDepth 20000 in
theorem gL_law_X4_anchor : GoodIn wsL_law (wsV RL 131 RX4 yX4_anchor wsX4_anchor) := goodIn_app (goodIn_of _ (by decide +kernel)) ggL_law_X4_anchor
set_option maxRecDepth 100000 in
set_option maxHeartbeats 4000000 in
theorem ggL_law_L_list : GoodIn wsL_law wsL_list := goodIn_ca (goodIn_ca (goodIn_r _ [361, 74, 75, 362, 363, 364, 2, 365, 80, 81, 366, 17, 83, 84, 85, 209, 210, 211, 89, 90, 91, 95, 96, 97, 98, 99, 367, 27, 368, 369, 370, 371, 372, 816, 817, 818, 819, 820, 821, 822, 850, 851, 852, 853, 854, 855] rfl (by decide +kernel)) (goodIn_sub (fun _ h => List.mem_append_left _ (List.mem_append_left _ (List.mem_append_right _ h))) (by decide +kernel))) (goodIn_sub (fun _ h => List.mem_append_left _ (List.mem_append_right _ h)) (by decide +kernel))
set_option maxRecDepth 20000 in
theorem gL_law_L_list : GoodIn wsL_law (va_wsS RL 132 yL_list wsL_list) := goodIn_app (goodIn_of _ (by decide +kernel)) ggL_law_L_list
set_option maxRecDepth 100000 in
set_option maxHeartbeats 4000000 in
theorem ggL_law_X4_list : GoodIn wsL_law wsX4_list := goodIn_r _ [376, 111, 53, 22, 112, 113, 5, 114, 115, 116, 117, 229, 230, 231, 121, 122, 123, 124, 125, 126, 127, 51, 128, 129, 130, 131, 132, 133, 134, 135, 59, 136, 137, 138, 139, 140, 141, 142, 143, 144, 145, 146, 147, 58, 148, 149, 150, 151, 152, 153, 154, 155, 156, 157, 158, 159, 160, 161, 162, 163, 164, 165, 166, 167, 168, 169, 170, 171, 172, 173, 174, 175, 176, 177, 178, 179, 180, 181, 823, 824, 825, 826, 827, 828, 829, 830, 856, 857, 858] rfl (by decide +kernel)
set_option maxRecDepth 20000 in
theorem gL_law_X4_list : GoodIn wsL_law (wsV RL 134 RX4 yX4_list wsX4_list) := goodIn_app (goodIn_of _ (by decide +kernel)) ggL_law_X4_list
set_option maxRecDepth 100000 in
set_option maxHeartbeats 4000000 in
theorem ggL_law_L_call : GoodIn wsL_law wsL_call := goodIn_ca (goodIn_ca (goodIn_r _ [379, 194, 74, 380, 381, 382, 2, 383, 17, 384, 385, 386, 387, 203, 204, 366, 92, 93, 94, 89, 90, 91, 95, 96, 97, 98, 99, 315, 316, 317, 318, 319, 320, 321, 816, 817, 818, 819, 820, 821, 822, 850, 851, 852, 853, 854, 855] rfl (by decide +kernel)) (goodIn_sub (fun _ h => List.mem_append_right _ h) (by decide +kernel))) (goodIn_sub (fun _ h => List.mem_append_left _ (List.mem_append_right _ h)) (by decide +kernel))
set_option maxRecDepth 20000 in
theorem gL_law_L_call : GoodIn wsL_law (va_wsS RL 135 yL_call wsL_call) := goodIn_app (goodIn_of _ (by decide +kernel)) ggL_law_L_call
set_option maxRecDepth 100000 in
set_option maxHeartbeats 4000000 in
theorem ggL_law_X4_call : GoodIn wsL_law wsX4_call := goodIn_r _ [391, 111, 53, 236, 392, 393, 394, 5, 395, 125, 126, 127, 51, 128, 129, 115, 116, 117, 121, 122, 123, 124, 237, 238, 239, 240, 241, 242, 243, 244, 245, 246, 247, 248, 249, 250, 251, 252, 59, 396, 316, 317, 318, 319, 320, 321, 823, 824, 825, 826, 827, 828, 829, 830, 856, 857, 858] rfl (by decide +kernel)
set_option maxRecDepth 20000 in
theorem gL_law_X4_call : GoodIn wsL_law (wsV RL 137 RX4 yX4_call wsX4_call) := goodIn_app (goodIn_of _ (by decide +kernel)) ggL_law_X4_call
set_option maxRecDepth 100000 in
set_option maxHeartbeats 4000000 in
theorem ggL_law_L_signList : GoodIn wsL_law wsL_signList := goodIn_ca (goodIn_ca (goodIn_r _ [399, 194, 74, 400, 401, 402, 2, 403, 17, 384, 385, 386, 387, 203, 204, 366, 86, 87, 88, 89, 90, 91, 95, 96, 97, 98, 99, 404, 27, 405, 406, 370, 371, 372, 407, 219, 220, 294, 295, 296, 816, 817, 818, 819, 820, 821, 822, 850, 851, 852, 853, 854, 855] rfl (by decide +kernel)) (goodIn_sub (fun _ h => List.mem_append_right _ h) (by decide +kernel))) (goodIn_sub (fun _ h => List.mem_append_left _ (List.mem_append_right _ h)) (by decide +kernel))
set_option maxRecDepth 20000 in
theorem gL_law_L_signList : GoodIn wsL_law (va_wsS RL 138 yL_signList wsL_signList) := goodIn_app (goodIn_of _ (by decide +kernel)) ggL_law_L_signList
set_option maxRecDepth 100000 in
set_option maxHeartbeats 4000000 in
theorem ggL_law_X4_signList : GoodIn wsL_law wsX4_signList := goodIn_r _ [411, 111, 53, 236, 392, 393, 394, 5, 395, 125, 126, 127, 51, 128, 129, 115, 116, 117, 121, 122, 123, 124, 118, 119, 120, 237, 238, 239, 240, 241, 242, 243, 244, 245, 246, 247, 248, 249, 250, 251, 252, 59, 412, 413, 414, 256, 257, 258, 301, 302, 303, 823, 824, 825, 826, 827, 828, 829, 830, 856, 857, 858] rfl (by decide +kernel)
set_option maxRecDepth 20000 in
theorem gL_law_X4_signList : GoodIn wsL_law (wsV RL 140 RX4 yX4_signList wsX4_signList) := goodIn_app (goodIn_of _ (by decide +kernel)) ggL_law_X4_signList
set_option maxRecDepth 100000 in
set_option maxHeartbeats 4000000 in
theorem ggL_law_X3_strict : GoodIn wsL_law wsX3_strict := goodIn_r _ [418, 419, 816, 817, 818, 819, 820, 821, 822] rfl (by decide +kernel)
set_option maxRecDepth 20000 in
theorem gL_law_X3_strict : GoodIn wsL_law (wsV RL 141 RX3 yX3_strict wsX3_strict) := goodIn_app (goodIn_of _ (by decide +kernel)) ggL_law_X3_strict
set_option maxRecDepth 100000 in
set_option maxHeartbeats 4000000 in
theorem ggL_law_X4_strict : GoodIn wsL_law wsX4_strict := goodIn_r _ [423, 111, 424, 823, 824, 825, 826, 827, 828, 829, 830] rfl (by decide +kernel)
set_option maxRecDepth 20000 in
theorem gL_law_X4_strict : GoodIn wsL_law (wsV RL 145 RX4 yX4_strict wsX4_strict) := goodIn_app (goodIn_of _ (by decide +kernel)) ggL_law_X4_strict
set_option maxRecDepth 100000 in
set_option maxHeartbeats 4000000 in
theorem ggL_law_L_many : GoodIn wsL_law wsL_many := goodIn_ca (goodIn_r _ [427, 74, 428, 429, 430, 2, 431, 89, 90, 91, 95, 96, 97, 98, 99, 432, 433, 434, 435, 82, 21, 15, 366, 17, 436, 437, 438, 439, 440, 441, 442, 443, 25, 444, 445, 446, 447, 212, 213, 214, 103, 104, 105, 106, 215, 40, 216, 217, 41, 218, 219, 220, 295, 296, 311, 312, 313, 314, 448, 20, 449, 450, 451, 32, 31, 452, 27, 453, 454, 455, 456, 457, 404, 405, 406, 370, 371, 372, 407, 458, 459, 460, 461, 315, 316, 317, 318, 319, 320, 321, 462, 463, 464, 465, 816, 817, 818, 819, 820, 821, 822, 831, 832, 833, 834, 835, 836, 837, 838, 839, 840, 841, 842, 843, 844, 845, 846, 847, 848, 849, 850, 851, 852, 853, 854, 855] rfl (by decide +kernel)) (goodIn_sub (fun _ h => List.mem_append_left _ (List.mem_append_right _ h)) (by decide +kernel))
set_option maxRecDepth 20000 in
theorem gL_law_L_many : GoodIn wsL_law (va_wsS RL 146 yL_many wsL_many) := goodIn_app (goodIn_of _ (by decide +kernel)) ggL_law_L_many
set_option maxRecDepth 100000 in
set_option maxHeartbeats 4000000 in
theorem ggL_law_X4_many : GoodIn wsL_law wsX4_many := goodIn_r _ [469, 111, 115, 116, 5, 117, 470, 471, 472, 473, 52, 53, 186, 125, 126, 127, 51, 128, 129, 326, 327, 328, 329, 236, 330, 331, 332, 333, 334, 335, 336, 337, 338, 339, 340, 341, 12, 13, 342, 343, 135, 344, 345, 346, 347, 348, 349, 350, 351, 352, 353, 354, 355, 356, 357, 358, 474, 475, 476, 477, 22, 478, 54, 479, 480, 481, 482, 134, 59, 483, 484, 485, 486, 237, 238, 239, 240, 241, 242, 243, 244, 245, 246, 247, 248, 249, 250, 251, 252, 253, 254, 255, 256, 257, 258, 301, 302, 303, 130, 131, 132, 133, 136, 137, 138, 139, 140, 141, 142, 143, 144, 145, 146, 147, 58, 148, 149, 150, 151, 152, 153, 154, 155, 156, 157, 158, 159, 160, 161, 162, 163, 164, 165, 166, 167, 168, 169, 170, 171, 172, 173, 174, 175, 176, 177, 178, 179, 180, 181, 396, 316, 317, 318, 319, 320, 321, 121, 122, 123, 124, 823, 824, 825, 826, 827, 828, 829, 830, 856, 857, 858, 859, 860, 861, 862] rfl (by decide +kernel)
set_option maxRecDepth 20000 in
theorem gL_law_X4_many : GoodIn wsL_law (wsV RL 149 RX4 yX4_many wsX4_many) := goodIn_app (goodIn_of _ (by decide +kernel)) ggL_law_X4_many
