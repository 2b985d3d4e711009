/-! the law's calls, printed -/
set_option maxRecDepth 100000 in
set_option maxHeartbeats 4000000 in
theorem ggL_law_X3_init : GoodIn wsL_law wsX3_init := goodIn_r _ [6, 7, 8, 9, 10, 11, 12, 13, 14, 15, 16, 17, 3, 18, 19, 20, 21, 22, 23, 24, 25, 26, 27, 28, 29, 30, 31, 32, 33, 34, 35, 36, 37, 38, 39, 365, 366, 367, 368, 369, 370, 371, 372, 373, 374, 375, 376, 377, 378, 379, 380, 381, 382, 383, 384, 385, 386, 387, 388, 389, 390, 391, 392, 393, 394, 395, 396] rfl (by decide +kernel)
set_option maxRecDepth 100000 in
set_option maxHeartbeats 4000000 in
theorem gL_law_X3_init : GoodIn wsL_law (wsX3_init) := ggL_law_X3_init
set_option maxRecDepth 100000 in
set_option maxHeartbeats 4000000 in
theorem ggL_law_L_cell : GoodIn wsL_law wsL_cell := goodIn_r _ [43, 44] rfl (by decide +kernel)
set_option maxRecDepth 100000 in
set_option maxHeartbeats 4000000 in
theorem gL_law_L_cell : GoodIn wsL_law (va_wsS RL 12 yL_cell wsL_cell) := goodIn_app (goodIn_of _ (by decide +kernel)) ggL_law_L_cell
set_option maxRecDepth 100000 in
set_option maxHeartbeats 4000000 in
theorem ggL_law_L_below : GoodIn wsL_law wsL_below := goodIn_r _ [47, 48] rfl (by decide +kernel)
set_option maxRecDepth 100000 in
set_option maxHeartbeats 4000000 in
theorem gL_law_L_below : GoodIn wsL_law (va_wsS RL 18 yL_below wsL_below) := goodIn_app (goodIn_of _ (by decide +kernel)) ggL_law_L_below
set_option maxRecDepth 100000 in
set_option maxHeartbeats 4000000 in
theorem ggL_law_X3_letter : GoodIn wsL_law wsX3_letter := goodIn_ca (goodIn_ca (goodIn_r _ [52, 53, 54, 55, 11, 56, 57, 2, 58, 59, 60, 61, 62, 63, 64, 65, 66, 67, 68, 69, 70, 71, 72, 73, 20, 74, 75, 76, 77, 78, 79, 365, 366, 367, 368, 369, 370, 371, 379, 380, 381, 382, 383, 384, 385, 386, 387, 388, 389, 390] rfl (by decide +kernel)) (goodIn_sub (fun _ h => List.mem_append_left _ (List.mem_append_left _ (List.mem_append_right _ h))) (by decide +kernel))) (goodIn_sub (fun _ h => List.mem_append_left _ (List.mem_append_right _ h)) (by decide +kernel))
set_option maxRecDepth 100000 in
set_option maxHeartbeats 4000000 in
theorem gL_law_X3_letter : GoodIn wsL_law (wsV RL 22 RX3 yX3_letter wsX3_letter) := goodIn_app (goodIn_of _ (by decide +kernel)) ggL_law_X3_letter
set_option maxRecDepth 100000 in
set_option maxHeartbeats 4000000 in
theorem ggL_law_X3_master : GoodIn wsL_law wsX3_master := goodIn_ca (goodIn_ca (goodIn_r _ [83, 11, 84, 85, 86, 2, 87, 88, 89, 90, 91, 92, 93, 55, 62, 63, 64, 68, 69, 70, 71, 72, 94, 20, 95, 96, 76, 77, 78, 79, 97, 35, 98, 99, 36, 100, 101, 102, 365, 366, 367, 368, 369, 370, 371, 379, 380, 381, 382, 383, 384, 385, 386, 387, 388, 389, 390] rfl (by decide +kernel)) (goodIn_sub (fun _ h => List.mem_append_right _ h) (by decide +kernel))) (goodIn_sub (fun _ h => List.mem_append_left _ (List.mem_append_right _ h)) (by decide +kernel))
set_option maxRecDepth 100000 in
set_option maxHeartbeats 4000000 in
theorem gL_law_X3_master : GoodIn wsL_law (wsV RL 26 RX3 yX3_master wsX3_master) := goodIn_app (goodIn_of _ (by decide +kernel)) ggL_law_X3_master
set_option maxRecDepth 100000 in
set_option maxHeartbeats 4000000 in
theorem ggL_law_X3_ofLetter : GoodIn wsL_law wsX3_ofLetter := goodIn_ca (goodIn_ca (goodIn_r _ [106, 11, 84, 85, 86, 2, 87, 88, 89, 90, 91, 92, 93, 55, 62, 63, 64, 68, 69, 70, 71, 72, 107, 20, 108, 109, 76, 77, 78, 79, 97, 35, 98, 99, 36, 100, 110, 111, 112, 94, 95, 96, 101, 102, 365, 366, 367, 368, 369, 370, 371, 379, 380, 381, 382, 383, 384, 385, 386, 387, 388, 389, 390] rfl (by decide +kernel)) (goodIn_sub (fun _ h => List.mem_append_right _ h) (by decide +kernel))) (goodIn_sub (fun _ h => List.mem_append_left _ (List.mem_append_right _ h)) (by decide +kernel))
set_option maxRecDepth 100000 in
set_option maxHeartbeats 4000000 in
theorem gL_law_X3_ofLetter : GoodIn wsL_law (wsV RL 30 RX3 yX3_ofLetter wsX3_ofLetter) := goodIn_app (goodIn_of _ (by decide +kernel)) ggL_law_X3_ofLetter
set_option maxRecDepth 100000 in
set_option maxHeartbeats 4000000 in
theorem ggL_law_X3_sign : GoodIn wsL_law wsX3_sign := goodIn_ca (goodIn_ca (goodIn_r _ [116, 11, 84, 85, 86, 2, 87, 88, 89, 90, 91, 92, 93, 55, 59, 60, 61, 62, 63, 64, 68, 69, 70, 71, 72, 94, 20, 95, 96, 76, 77, 78, 79, 97, 35, 98, 99, 36, 100, 101, 102, 117, 118, 119, 365, 366, 367, 368, 369, 370, 371, 379, 380, 381, 382, 383, 384, 385, 386, 387, 388, 389, 390] rfl (by decide +kernel)) (goodIn_sub (fun _ h => List.mem_append_right _ h) (by decide +kernel))) (goodIn_sub (fun _ h => List.mem_append_left _ (List.mem_append_right _ h)) (by decide +kernel))
set_option maxRecDepth 100000 in
set_option maxHeartbeats 4000000 in
theorem gL_law_X3_sign : GoodIn wsL_law (wsV RL 33 RX3 yX3_sign wsX3_sign) := goodIn_app (goodIn_of _ (by decide +kernel)) ggL_law_X3_sign
set_option maxRecDepth 100000 in
set_option maxHeartbeats 4000000 in
theorem ggL_law_X3_anchor : GoodIn wsL_law wsX3_anchor := goodIn_ca (goodIn_r _ [123, 11, 84, 85, 86, 2, 87, 88, 89, 90, 91, 92, 93, 55, 124, 125, 126, 127, 128, 129, 130, 131, 132, 133, 134, 365, 366, 367, 368, 369, 370, 371, 379, 380, 381, 382, 383, 384, 385, 386, 387, 388, 389, 390] rfl (by decide +kernel)) (goodIn_sub (fun _ h => List.mem_append_right _ h) (by decide +kernel))
set_option maxRecDepth 100000 in
set_option maxHeartbeats 4000000 in
theorem gL_law_X3_anchor : GoodIn wsL_law (wsV RL 36 RX3 yX3_anchor wsX3_anchor) := goodIn_app (goodIn_of _ (by decide +kernel)) ggL_law_X3_anchor
set_option maxRecDepth 100000 in
set_option maxHeartbeats 4000000 in
theorem ggL_law_X3_many : GoodIn wsL_law wsX3_many := goodIn_ca (goodIn_r _ [138, 62, 63, 2, 64, 68, 69, 70, 71, 72, 139, 140, 141, 142, 55, 17, 11, 143, 13, 144, 145, 146, 147, 148, 149, 150, 151, 20, 152, 153, 110, 112, 94, 95, 96, 76, 77, 78, 79, 97, 35, 98, 99, 36, 100, 101, 102, 118, 119, 124, 125, 126, 127, 154, 16, 155, 156, 157, 27, 26, 158, 22, 159, 160, 161, 162, 163, 164, 165, 166, 167, 168, 169, 170, 171, 172, 173, 174, 128, 129, 130, 131, 132, 133, 134, 175, 176, 177, 178, 365, 366, 367, 368, 369, 370, 371, 372, 373, 374, 375, 376, 377, 378, 379, 380, 381, 382, 383, 384, 385, 386, 387, 388, 389, 390, 391, 392, 393, 394, 395, 396] rfl (by decide +kernel)) (goodIn_sub (fun _ h => List.mem_append_left _ (List.mem_append_right _ h)) (by decide +kernel))
set_option maxRecDepth 100000 in
set_option maxHeartbeats 4000000 in
theorem gL_law_X3_many : GoodIn wsL_law (wsV RL 40 RX3 yX3_many wsX3_many) := goodIn_app (goodIn_of _ (by decide +kernel)) ggL_law_X3_many
set_option maxRecDepth 100000 in
set_option maxHeartbeats 4000000 in
theorem ggL_law_L_act : GoodIn wsL_law wsL_act := goodIn_ca (goodIn_ca (goodIn_ca (goodIn_r _ [181, 182, 183, 45, 46, 42, 47, 48, 103, 104, 105, 2, 106, 11, 84, 85, 86, 87, 88, 89, 90, 91, 92, 93, 55, 62, 63, 64, 68, 69, 70, 71, 72, 107, 20, 108, 109, 76, 77, 78, 79, 97, 35, 98, 99, 36, 100, 110, 111, 112, 94, 95, 96, 101, 102, 49, 50, 51, 52, 53, 54, 56, 57, 58, 59, 60, 61, 65, 66, 67, 73, 74, 75, 80, 81, 82, 83, 113, 114, 115, 116, 117, 118, 119, 184, 185, 186, 187, 148, 149, 150, 151, 152, 153, 188, 189, 190, 191, 17, 192, 193, 194, 195, 196, 197, 139, 140, 141, 142, 143, 13, 144, 145, 146, 147, 124, 125, 126, 127, 154, 16, 155, 156, 157, 27, 26, 158, 22, 159, 160, 161, 162, 163, 164, 165, 166, 167, 168, 169, 170, 198, 199, 200, 201, 31, 202, 203, 204, 205, 206, 207, 208, 29, 209, 210, 211, 212, 30, 213, 214, 215, 216, 217, 218, 219, 220, 221, 222, 223, 224, 225, 226, 227, 228, 229, 230, 231, 232, 233, 234, 235, 236, 237, 238, 239, 240, 241, 242, 243, 244, 245, 246, 247, 248, 249, 250, 251, 252, 253, 254, 255, 256, 257, 258, 259, 260, 261, 262, 263, 264, 265, 266, 267, 268, 269, 270, 271, 272, 273, 274, 120, 121, 122, 123, 128, 129, 130, 131, 132, 133, 134, 135, 136, 137, 138, 171, 172, 173, 174, 175, 176, 177, 178, 275, 276, 277, 278, 279, 280, 281, 282, 283, 284, 285, 286, 287, 288, 289, 290, 291, 292, 293, 294, 295, 296, 297, 298, 299, 300, 301, 302, 303, 304, 305, 365, 366, 367, 368, 369, 370, 371, 379, 380, 381, 382, 383, 384, 385, 386, 387, 388, 389, 390, 372, 373, 374, 375, 376, 377, 378, 391, 392, 393, 394, 395, 396] rfl (by decide +kernel)) (goodIn_sub (fun _ h => List.mem_append_right _ h) (by decide +kernel))) (goodIn_sub (fun _ h => List.mem_append_left _ (List.mem_append_right _ h)) (by decide +kernel))) (goodIn_sub (fun _ h => List.mem_append_left _ (List.mem_append_left _ (List.mem_append_right _ h))) (by decide +kernel))
set_option maxRecDepth 100000 in
set_option maxHeartbeats 4000000 in
theorem gL_law_L_act : GoodIn wsL_law (va_wsS RL 44 yL_act wsL_act) := goodIn_app (goodIn_of _ (by decide +kernel)) ggL_law_L_act
set_option maxRecDepth 100000 in
set_option maxHeartbeats 4000000 in
theorem ggL_law_X3_digest : GoodIn wsL_law wsX3_digest := goodIn_r _ [309, 310, 311, 55, 11, 17, 143, 13, 139, 140, 141, 2, 142, 144, 145, 146, 147, 148, 149, 150, 151, 20, 152, 153, 110, 112, 94, 95, 96, 76, 77, 78, 79, 97, 35, 98, 99, 36, 100, 101, 102, 118, 119, 124, 125, 126, 127, 154, 16, 155, 156, 157, 27, 26, 158, 22, 159, 160, 161, 162, 163, 164, 165, 166, 167, 168, 169, 170, 171, 172, 173, 174, 128, 129, 130, 131, 132, 133, 134, 175, 176, 177, 178, 312, 313, 314, 107, 108, 109, 111, 198, 199, 200, 201, 31, 202, 203, 204, 205, 206, 207, 208, 29, 209, 210, 211, 212, 30, 213, 214, 215, 216, 217, 218, 219, 220, 221, 222, 223, 224, 225, 226, 227, 228, 229, 230, 231, 232, 233, 234, 90, 91, 92, 93, 235, 236, 237, 238, 239, 240, 241, 242, 243, 244, 245, 246, 247, 248, 249, 250, 251, 252, 253, 254, 255, 256, 315, 316, 317, 318, 294, 295, 296, 365, 366, 367, 368, 369, 370, 371, 372, 373, 374, 375, 376, 377, 378, 379, 380, 381, 382, 383, 384, 385, 386, 387, 388, 389, 390, 391, 392, 393, 394, 395, 396] rfl (by decide +kernel)
set_option maxRecDepth 100000 in
set_option maxHeartbeats 4000000 in
theorem gL_law_X3_digest : GoodIn wsL_law (wsV RL 48 RX3 yX3_digest wsX3_digest) := goodIn_app (goodIn_of _ (by decide +kernel)) ggL_law_X3_digest
set_option maxRecDepth 100000 in
set_option maxHeartbeats 4000000 in
theorem ggL_law_L_isLetterRight : GoodIn wsL_law wsL_isLetterRight := goodIn_ca (goodIn_ca (goodIn_r _ [321, 188, 189, 190, 2, 191, 17, 84, 85, 86, 87, 88, 89, 90, 91, 92, 93, 55, 192, 193, 194, 195, 196, 197, 62, 63, 64, 68, 69, 70, 71, 72, 139, 140, 141, 142, 11, 143, 13, 144, 145, 146, 147, 148, 149, 150, 151, 20, 152, 153, 110, 112, 94, 95, 96, 76, 77, 78, 79, 97, 35, 98, 99, 36, 100, 101, 102, 118, 119, 124, 125, 126, 127, 154, 16, 155, 156, 157, 27, 26, 158, 22, 159, 160, 161, 162, 163, 164, 165, 166, 167, 168, 169, 170, 198, 199, 200, 201, 31, 202, 203, 204, 205, 206, 207, 208, 29, 209, 210, 211, 212, 30, 213, 214, 215, 216, 217, 218, 219, 220, 221, 222, 223, 224, 225, 226, 227, 228, 229, 230, 231, 232, 233, 234, 235, 236, 237, 238, 239, 240, 241, 242, 243, 244, 245, 246, 247, 248, 249, 250, 251, 252, 253, 254, 255, 256, 322, 323, 324, 325, 326, 327, 328, 329, 315, 316, 317, 318, 103, 104, 105, 106, 107, 108, 109, 111, 330, 331, 332, 333, 184, 185, 186, 187, 334, 335, 336, 337, 56, 57, 58, 265, 266, 267, 338, 339, 340, 341, 365, 366, 367, 368, 369, 370, 371, 372, 373, 374, 375, 376, 377, 378, 379, 380, 381, 382, 383, 384, 385, 386, 387, 388, 389, 390, 391, 392, 393, 394, 395, 396] rfl (by decide +kernel)) (goodIn_sub (fun _ h => List.mem_append_right _ h) (by decide +kernel))) (goodIn_sub (fun _ h => List.mem_append_left _ (List.mem_append_right _ h)) (by decide +kernel))
set_option maxRecDepth 100000 in
set_option maxHeartbeats 4000000 in
theorem gL_law_L_isLetterRight : GoodIn wsL_law (va_wsS RL 52 yL_isLetterRight wsL_isLetterRight) := goodIn_app (goodIn_of _ (by decide +kernel)) ggL_law_L_isLetterRight
set_option maxRecDepth 100000 in
set_option maxHeartbeats 4000000 in
theorem ggL_law_L_isRoomRight : GoodIn wsL_law wsL_isRoomRight := goodIn_ca (goodIn_ca (goodIn_r _ [344, 345, 135, 136, 137, 2, 138, 62, 63, 64, 68, 69, 70, 71, 72, 139, 140, 141, 142, 55, 17, 11, 143, 13, 144, 145, 146, 147, 148, 149, 150, 151, 20, 152, 153, 110, 112, 94, 95, 96, 76, 77, 78, 79, 97, 35, 98, 99, 36, 100, 101, 102, 118, 119, 124, 125, 126, 127, 154, 16, 155, 156, 157, 27, 26, 158, 22, 159, 160, 161, 162, 163, 164, 165, 166, 167, 168, 169, 170, 171, 172, 173, 174, 128, 129, 130, 131, 132, 133, 134, 175, 176, 177, 178, 188, 189, 190, 191, 84, 85, 86, 87, 88, 89, 90, 91, 92, 93, 192, 193, 194, 195, 196, 197, 198, 199, 200, 201, 31, 202, 203, 204, 205, 206, 207, 208, 29, 209, 210, 211, 212, 30, 213, 214, 215, 216, 217, 218, 219, 220, 221, 222, 223, 224, 225, 226, 227, 228, 229, 230, 231, 232, 233, 234, 235, 236, 237, 238, 239, 240, 241, 242, 243, 244, 245, 246, 247, 248, 249, 250, 251, 252, 253, 254, 255, 256, 346, 347, 348, 349, 59, 60, 61, 350, 351, 352, 353, 354, 355, 356, 357, 358, 359, 360, 361, 18, 362, 363, 364, 365, 366, 367, 368, 369, 370, 371, 372, 373, 374, 375, 376, 377, 378, 379, 380, 381, 382, 383, 384, 385, 386, 387, 388, 389, 390, 391, 392, 393, 394, 395, 396] rfl (by decide +kernel)) (goodIn_sub (fun _ h => List.mem_append_left _ (List.mem_append_right _ h)) (by decide +kernel))) (goodIn_sub (fun _ h => List.mem_append_right _ h) (by decide +kernel))
set_option maxRecDepth 100000 in
set_option maxHeartbeats 4000000 in
theorem gL_law_L_isRoomRight : GoodIn wsL_law (va_wsS RL 56 yL_isRoomRight wsL_isRoomRight) := goodIn_app (goodIn_of _ (by decide +kernel)) ggL_law_L_isRoomRight
set_option maxRecDepth 100000 in
set_option maxHeartbeats 4000000 in
theorem ggL_act_L_below : GoodIn wsL_act wsL_below := goodIn_r _ [6, 7] rfl (by decide +kernel)
set_option maxRecDepth 100000 in
set_option maxHeartbeats 4000000 in
theorem gL_act_L_below : GoodIn wsL_act (va_wsS RL 18 yL_below wsL_below) := goodIn_app (goodIn_of _ (by decide +kernel)) ggL_act_L_below
set_option maxRecDepth 100000 in
set_option maxHeartbeats 4000000 in
theorem ggL_act_X3_ofLetter : GoodIn wsL_act wsX3_ofLetter := goodIn_ca (goodIn_ca (goodIn_r _ [12, 13, 14, 15, 16, 11, 17, 18, 19, 20, 21, 22, 23, 24, 25, 26, 27, 28, 29, 30, 31, 32, 33, 34, 35, 36, 37, 38, 39, 40, 41, 42, 43, 44, 45, 46, 47, 48, 49, 50, 51, 52, 53, 54, 274, 275, 276, 277, 278, 279, 280, 281, 282, 283, 284, 285, 286, 287, 288, 289, 290, 291, 292] rfl (by decide +kernel)) (goodIn_sub (fun _ h => List.mem_cons_of_mem _ (List.mem_append_left _ (List.mem_append_left _ (List.mem_append_right _ h)))) (by decide +kernel))) (goodIn_sub (fun _ h => List.mem_cons_of_mem _ (List.mem_append_left _ (List.mem_append_right _ h))) (by decide +kernel))
set_option maxRecDepth 100000 in
set_option maxHeartbeats 4000000 in
theorem gL_act_X3_ofLetter : GoodIn wsL_act (wsV RL 30 RX3 yX3_ofLetter wsX3_ofLetter) := goodIn_app (goodIn_of _ (by decide +kernel)) ggL_act_X3_ofLetter
set_option maxRecDepth 100000 in
set_option maxHeartbeats 4000000 in
theorem ggL_act_X3_letter : GoodIn wsL_act wsX3_letter := goodIn_ca (goodIn_ca (goodIn_r _ [58, 59, 60, 24, 13, 61, 62, 11, 63, 64, 65, 66, 25, 26, 27, 67, 68, 69, 28, 29, 30, 31, 32, 70, 34, 71, 72, 37, 38, 39, 40, 274, 275, 276, 277, 278, 279, 280, 281, 282, 283, 284, 285, 286, 287, 288, 289, 290, 291, 292] rfl (by decide +kernel)) (goodIn_sub (fun _ h => List.mem_cons_of_mem _ (List.mem_append_right _ h)) (by decide +kernel))) (goodIn_sub (fun _ h => List.mem_cons_of_mem _ (List.mem_append_left _ (List.mem_append_right _ h))) (by decide +kernel))
set_option maxRecDepth 100000 in
set_option maxHeartbeats 4000000 in
theorem gL_act_X3_letter : GoodIn wsL_act (wsV RL 22 RX3 yX3_letter wsX3_letter) := goodIn_app (goodIn_of _ (by decide +kernel)) ggL_act_X3_letter
set_option maxRecDepth 100000 in
set_option maxHeartbeats 4000000 in
theorem ggL_act_X3_master : GoodIn wsL_act wsX3_master := goodIn_ca (goodIn_ca (goodIn_r _ [76, 13, 14, 15, 16, 11, 17, 18, 19, 20, 21, 22, 23, 24, 25, 26, 27, 28, 29, 30, 31, 32, 50, 34, 51, 52, 37, 38, 39, 40, 41, 42, 43, 44, 45, 46, 53, 54, 274, 275, 276, 277, 278, 279, 280, 281, 282, 283, 284, 285, 286, 287, 288, 289, 290, 291, 292] rfl (by decide +kernel)) (goodIn_sub (fun _ h => List.mem_cons_of_mem _ (List.mem_append_left _ (List.mem_append_left _ (List.mem_append_right _ h)))) (by decide +kernel))) (goodIn_sub (fun _ h => List.mem_cons_of_mem _ (List.mem_append_left _ (List.mem_append_right _ h))) (by decide +kernel))
set_option maxRecDepth 100000 in
set_option maxHeartbeats 4000000 in
theorem gL_act_X3_master : GoodIn wsL_act (wsV RL 26 RX3 yX3_master wsX3_master) := goodIn_app (goodIn_of _ (by decide +kernel)) ggL_act_X3_master
set_option maxRecDepth 100000 in
set_option maxHeartbeats 4000000 in
theorem ggL_act_X3_sign : GoodIn wsL_act wsX3_sign := goodIn_ca (goodIn_ca (goodIn_r _ [80, 13, 14, 15, 16, 11, 17, 18, 19, 20, 21, 22, 23, 24, 64, 65, 66, 25, 26, 27, 28, 29, 30, 31, 32, 50, 34, 51, 52, 37, 38, 39, 40, 41, 42, 43, 44, 45, 46, 53, 54, 81, 82, 83, 274, 275, 276, 277, 278, 279, 280, 281, 282, 283, 284, 285, 286, 287, 288, 289, 290, 291, 292] rfl (by decide +kernel)) (goodIn_sub (fun _ h => List.mem_cons_of_mem _ (List.mem_append_left _ (List.mem_append_left _ (List.mem_append_right _ h)))) (by decide +kernel))) (goodIn_sub (fun _ h => List.mem_cons_of_mem _ (List.mem_append_left _ (List.mem_append_right _ h))) (by decide +kernel))
set_option maxRecDepth 100000 in
set_option maxHeartbeats 4000000 in
theorem gL_act_X3_sign : GoodIn wsL_act (wsV RL 33 RX3 yX3_sign wsX3_sign) := goodIn_app (goodIn_of _ (by decide +kernel)) ggL_act_X3_sign
set_option maxRecDepth 100000 in
set_option maxHeartbeats 4000000 in
theorem ggL_act_X3_backs : GoodIn wsL_act wsX3_backs := goodIn_ca (goodIn_r _ [87, 13, 14, 15, 16, 11, 17, 18, 19, 20, 21, 22, 23, 24, 88, 89, 90, 91, 34, 92, 93, 47, 49, 50, 51, 52, 37, 38, 39, 40, 41, 42, 43, 44, 45, 46, 53, 54, 82, 83, 274, 275, 276, 277, 278, 279, 280, 281, 282, 283, 284, 285, 286, 287, 288, 289, 290, 291, 292] rfl (by decide +kernel)) (goodIn_sub (fun _ h => List.mem_cons_of_mem _ (List.mem_append_left _ (List.mem_append_left _ (List.mem_append_right _ h)))) (by decide +kernel))
set_option maxRecDepth 100000 in
set_option maxHeartbeats 4000000 in
theorem gL_act_X3_backs : GoodIn wsL_act (wsV RL 60 RX3 yX3_backs wsX3_backs) := goodIn_app (goodIn_of _ (by decide +kernel)) ggL_act_X3_backs
set_option maxRecDepth 100000 in
set_option maxHeartbeats 4000000 in
theorem ggL_act_X3_verdict : GoodIn wsL_act wsX3_verdict := goodIn_ca (goodIn_ca (goodIn_r _ [97, 98, 14, 15, 16, 11, 17, 18, 19, 20, 21, 22, 23, 24, 99, 100, 101, 102, 103, 104, 25, 26, 27, 28, 29, 30, 31, 32, 105, 106, 107, 108, 13, 109, 110, 111, 112, 113, 114, 88, 89, 90, 91, 34, 92, 93, 47, 49, 50, 51, 52, 37, 38, 39, 40, 41, 42, 43, 44, 45, 46, 53, 54, 82, 83, 115, 116, 117, 118, 119, 120, 121, 122, 123, 124, 125, 126, 127, 128, 129, 130, 131, 132, 133, 134, 135, 136, 137, 138, 139, 140, 141, 142, 143, 144, 145, 146, 147, 148, 149, 150, 151, 152, 153, 154, 155, 156, 157, 158, 159, 160, 161, 162, 163, 164, 165, 166, 167, 168, 169, 170, 171, 172, 173, 174, 175, 176, 177, 178, 179, 180, 181, 182, 183, 184, 185, 186, 187, 188, 189, 190, 191, 192, 193, 194, 195, 196, 197, 198, 199, 200, 201, 274, 275, 276, 277, 278, 279, 280, 293, 294, 295, 296, 297, 298, 299, 281, 282, 283, 284, 285, 286, 287, 288, 289, 290, 291, 292, 300, 301, 302, 303, 304, 305] rfl (by decide +kernel)) (goodIn_sub (fun _ h => List.mem_cons_of_mem _ (List.mem_append_left _ (List.mem_append_left _ (List.mem_append_right _ h)))) (by decide +kernel))) (goodIn_sub (fun _ h => List.mem_cons_of_mem _ (List.mem_append_left _ (List.mem_append_right _ h))) (by decide +kernel))
set_option maxRecDepth 100000 in
set_option maxHeartbeats 4000000 in
theorem gL_act_X3_verdict : GoodIn wsL_act (wsV RL 64 RX3 yX3_verdict wsX3_verdict) := goodIn_app (goodIn_of _ (by decide +kernel)) ggL_act_X3_verdict
set_option maxRecDepth 100000 in
set_option maxHeartbeats 4000000 in
theorem ggL_act_X3_times : GoodIn wsL_act wsX3_times := goodIn_ca (goodIn_ca (goodIn_r _ [205, 13, 14, 15, 16, 11, 17, 18, 19, 20, 21, 22, 23, 24, 102, 103, 104, 25, 26, 27, 28, 29, 30, 31, 32, 50, 34, 51, 52, 37, 38, 39, 40, 41, 42, 43, 44, 45, 46, 53, 54, 274, 275, 276, 277, 278, 279, 280, 281, 282, 283, 284, 285, 286, 287, 288, 289, 290, 291, 292] rfl (by decide +kernel)) (goodIn_sub (fun _ h => List.mem_cons_of_mem _ (List.mem_append_left _ (List.mem_append_left _ (List.mem_append_right _ h)))) (by decide +kernel))) (goodIn_sub (fun _ h => List.mem_cons_of_mem _ (List.mem_append_left _ (List.mem_append_right _ h))) (by decide +kernel))
set_option maxRecDepth 100000 in
set_option maxHeartbeats 4000000 in
theorem gL_act_X3_times : GoodIn wsL_act (wsV RL 68 RX3 yX3_times wsX3_times) := goodIn_app (goodIn_of _ (by decide +kernel)) ggL_act_X3_times
set_option maxRecDepth 100000 in
set_option maxHeartbeats 4000000 in
theorem ggL_act_X3_good : GoodIn wsL_act wsX3_good := goodIn_ca (goodIn_ca (goodIn_r _ [209, 13, 14, 15, 16, 11, 17, 18, 19, 20, 21, 22, 23, 24, 25, 26, 27, 210, 211, 212, 61, 62, 63, 28, 29, 30, 31, 32, 50, 34, 51, 52, 37, 38, 39, 40, 41, 42, 43, 44, 45, 46, 53, 54, 274, 275, 276, 277, 278, 279, 280, 281, 282, 283, 284, 285, 286, 287, 288, 289, 290, 291, 292] rfl (by decide +kernel)) (goodIn_sub (fun _ h => List.mem_cons_of_mem _ (List.mem_append_left _ (List.mem_append_left _ (List.mem_append_right _ h)))) (by decide +kernel))) (goodIn_sub (fun _ h => List.mem_cons_of_mem _ (List.mem_append_left _ (List.mem_append_right _ h))) (by decide +kernel))
set_option maxRecDepth 100000 in
set_option maxHeartbeats 4000000 in
theorem gL_act_X3_good : GoodIn wsL_act (wsV RL 71 RX3 yX3_good wsX3_good) := goodIn_app (goodIn_of _ (by decide +kernel)) ggL_act_X3_good
set_option maxRecDepth 100000 in
set_option maxHeartbeats 4000000 in
theorem ggL_act_X3_signed : GoodIn wsL_act wsX3_signed := goodIn_ca (goodIn_r _ [216, 64, 65, 11, 66, 25, 26, 27, 217, 218, 219, 28, 29, 30, 31, 32, 81, 82, 83] rfl (by decide +kernel)) (goodIn_sub (fun _ h => List.mem_cons_of_mem _ (List.mem_append_left _ (List.mem_append_right _ h))) (by decide +kernel))
set_option maxRecDepth 100000 in
set_option maxHeartbeats 4000000 in
theorem gL_act_X3_signed : GoodIn wsL_act (wsV RL 74 RX3 yX3_signed wsX3_signed) := goodIn_app (goodIn_of _ (by decide +kernel)) ggL_act_X3_signed
set_option maxRecDepth 100000 in
set_option maxHeartbeats 4000000 in
theorem ggL_act_X3_anchor : GoodIn wsL_act wsX3_anchor := goodIn_ca (goodIn_r _ [223, 13, 14, 15, 16, 11, 17, 18, 19, 20, 21, 22, 23, 24, 115, 116, 117, 118, 224, 225, 226, 227, 228, 229, 230, 274, 275, 276, 277, 278, 279, 280, 281, 282, 283, 284, 285, 286, 287, 288, 289, 290, 291, 292] rfl (by decide +kernel)) (goodIn_sub (fun _ h => List.mem_cons_of_mem _ (List.mem_append_left _ (List.mem_append_left _ (List.mem_append_right _ h)))) (by decide +kernel))
set_option maxRecDepth 100000 in
set_option maxHeartbeats 4000000 in
theorem gL_act_X3_anchor : GoodIn wsL_act (wsV RL 36 RX3 yX3_anchor wsX3_anchor) := goodIn_app (goodIn_of _ (by decide +kernel)) ggL_act_X3_anchor
set_option maxRecDepth 100000 in
set_option maxHeartbeats 4000000 in
theorem ggL_act_X3_many : GoodIn wsL_act wsX3_many := goodIn_ca (goodIn_r _ [234, 25, 26, 11, 27, 28, 29, 30, 31, 32, 105, 106, 107, 108, 24, 98, 13, 109, 110, 111, 112, 113, 114, 88, 89, 90, 91, 34, 92, 93, 47, 49, 50, 51, 52, 37, 38, 39, 40, 41, 42, 43, 44, 45, 46, 53, 54, 82, 83, 115, 116, 117, 118, 119, 120, 121, 122, 123, 124, 125, 126, 127, 128, 129, 130, 131, 132, 133, 134, 135, 136, 137, 138, 139, 235, 236, 237, 238, 224, 225, 226, 227, 228, 229, 230, 239, 240, 241, 242, 274, 275, 276, 277, 278, 279, 280, 293, 294, 295, 296, 297, 298, 299, 281, 282, 283, 284, 285, 286, 287, 288, 289, 290, 291, 292, 300, 301, 302, 303, 304, 305] rfl (by decide +kernel)) (goodIn_sub (fun _ h => List.mem_cons_of_mem _ (List.mem_append_left _ (List.mem_append_right _ h))) (by decide +kernel))
set_option maxRecDepth 100000 in
set_option maxHeartbeats 4000000 in
theorem gL_act_X3_many : GoodIn wsL_act (wsV RL 40 RX3 yX3_many wsX3_many) := goodIn_app (goodIn_of _ (by decide +kernel)) ggL_act_X3_many
set_option maxRecDepth 100000 in
set_option maxHeartbeats 4000000 in
theorem ggL_act_X3_list : GoodIn wsL_act wsX3_list := goodIn_ca (goodIn_ca (goodIn_r _ [246, 59, 60, 109, 110, 61, 62, 11, 63, 102, 103, 104, 25, 26, 27, 28, 29, 30, 31, 32, 247, 127, 248, 249, 136, 137, 138, 274, 275, 276, 277, 278, 279, 280, 300, 301, 302, 303, 304, 305] rfl (by decide +kernel)) (goodIn_sub (fun _ h => List.mem_cons_of_mem _ (List.mem_append_right _ h)) (by decide +kernel))) (goodIn_sub (fun _ h => List.mem_cons_of_mem _ (List.mem_append_left _ (List.mem_append_right _ h))) (by decide +kernel))
set_option maxRecDepth 100000 in
set_option maxHeartbeats 4000000 in
theorem gL_act_X3_list : GoodIn wsL_act (wsV RL 77 RX3 yX3_list wsX3_list) := goodIn_app (goodIn_of _ (by decide +kernel)) ggL_act_X3_list
set_option maxRecDepth 100000 in
set_option maxHeartbeats 4000000 in
theorem ggL_act_X3_signList : GoodIn wsL_act wsX3_signList := goodIn_ca (goodIn_ca (goodIn_r _ [253, 110, 254, 255, 256, 11, 257, 18, 19, 109, 64, 65, 66, 25, 26, 27, 28, 29, 30, 31, 32, 133, 127, 134, 135, 136, 137, 138, 139, 53, 54, 81, 82, 83, 274, 275, 276, 277, 278, 279, 280, 300, 301, 302, 303, 304, 305] rfl (by decide +kernel)) (goodIn_sub (fun _ h => List.mem_cons_of_mem _ (List.mem_append_left _ (List.mem_append_left _ (List.mem_append_right _ h)))) (by decide +kernel))) (goodIn_sub (fun _ h => List.mem_cons_of_mem _ (List.mem_append_left _ (List.mem_append_right _ h))) (by decide +kernel))
set_option maxRecDepth 100000 in
set_option maxHeartbeats 4000000 in
theorem gL_act_X3_signList : GoodIn wsL_act (wsV RL 80 RX3 yX3_signList wsX3_signList) := goodIn_app (goodIn_of _ (by decide +kernel)) ggL_act_X3_signList
set_option maxRecDepth 100000 in
set_option maxHeartbeats 4000000 in
theorem ggL_act_X3_ofList : GoodIn wsL_act wsX3_ofList := goodIn_ca (goodIn_ca (goodIn_r _ [261, 110, 254, 255, 256, 11, 257, 18, 19, 109, 25, 26, 27, 28, 29, 30, 31, 32, 262, 127, 263, 264, 136, 137, 138, 139, 131, 132, 133, 134, 135, 53, 54, 274, 275, 276, 277, 278, 279, 280, 300, 301, 302, 303, 304, 305] rfl (by decide +kernel)) (goodIn_sub (fun _ h => List.mem_cons_of_mem _ (List.mem_append_left _ (List.mem_append_left _ (List.mem_append_right _ h)))) (by decide +kernel))) (goodIn_sub (fun _ h => List.mem_cons_of_mem _ (List.mem_append_left _ (List.mem_append_right _ h))) (by decide +kernel))
set_option maxRecDepth 100000 in
set_option maxHeartbeats 4000000 in
theorem gL_act_X3_ofList : GoodIn wsL_act (wsV RL 83 RX3 yX3_ofList wsX3_ofList) := goodIn_app (goodIn_of _ (by decide +kernel)) ggL_act_X3_ofList
set_option maxRecDepth 100000 in
set_option maxHeartbeats 4000000 in
theorem ggL_act_X3_call : GoodIn wsL_act wsX3_call := goodIn_ca (goodIn_ca (goodIn_r _ [268, 110, 254, 255, 256, 11, 257, 18, 19, 109, 67, 68, 69, 25, 26, 27, 28, 29, 30, 31, 32, 224, 225, 226, 227, 228, 229, 230, 274, 275, 276, 277, 278, 279, 280, 300, 301, 302, 303, 304, 305] rfl (by decide +kernel)) (goodIn_sub (fun _ h => List.mem_cons_of_mem _ (List.mem_append_left _ (List.mem_append_left _ (List.mem_append_right _ h)))) (by decide +kernel))) (goodIn_sub (fun _ h => List.mem_cons_of_mem _ (List.mem_append_left _ (List.mem_append_right _ h))) (by decide +kernel))
set_option maxRecDepth 100000 in
set_option maxHeartbeats 4000000 in
theorem gL_act_X3_call : GoodIn wsL_act (wsV RL 86 RX3 yX3_call wsX3_call) := goodIn_app (goodIn_of _ (by decide +kernel)) ggL_act_X3_call
set_option maxRecDepth 100000 in
set_option maxHeartbeats 4000000 in
theorem ggL_act_J6_bitCount_0f7a4 : GoodIn wsL_act wsJ6_bitCount_0f7a4 := goodIn_r _ [227, 228, 229, 230] rfl (by decide +kernel)
set_option maxRecDepth 100000 in
set_option maxHeartbeats 4000000 in
theorem gL_act_J6_bitCount_0f7a4 : GoodIn wsL_act (va_wsS RL 89 yJ6_bitCount_0f7a4 wsJ6_bitCount_0f7a4) := goodIn_app (goodIn_of _ (by decide +kernel)) ggL_act_J6_bitCount_0f7a4
set_option maxRecDepth 100000 in
set_option maxHeartbeats 4000000 in
theorem ggL_act_X3_strict : GoodIn wsL_act wsX3_strict := goodIn_r _ [273, 194, 274, 275, 276, 277, 278, 279, 280] rfl (by decide +kernel)
set_option maxRecDepth 100000 in
set_option maxHeartbeats 4000000 in
theorem gL_act_X3_strict : GoodIn wsL_act (wsV RL 94 RX3 yX3_strict wsX3_strict) := goodIn_app (goodIn_of _ (by decide +kernel)) ggL_act_X3_strict
set_option maxRecDepth 100000 in
set_option maxHeartbeats 4000000 in
theorem ggL_isLetterRight_X3_verdict : GoodIn wsL_isLetterRight wsX3_verdict := goodIn_ca (goodIn_ca (goodIn_r _ [5, 6, 7, 8, 9, 4, 10, 11, 12, 13, 14, 15, 16, 17, 18, 19, 20, 21, 22, 23, 24, 25, 26, 27, 28, 29, 30, 31, 32, 33, 34, 35, 36, 37, 38, 39, 40, 41, 42, 43, 44, 45, 46, 47, 48, 49, 50, 51, 52, 53, 54, 55, 56, 57, 58, 59, 60, 61, 62, 63, 64, 65, 66, 67, 68, 69, 70, 71, 72, 73, 74, 75, 76, 77, 78, 79, 80, 81, 82, 83, 84, 85, 86, 87, 88, 89, 90, 91, 92, 93, 94, 95, 96, 97, 98, 99, 100, 101, 102, 103, 104, 105, 106, 107, 108, 109, 110, 111, 112, 113, 114, 115, 116, 117, 118, 119, 120, 121, 122, 123, 124, 125, 126, 127, 128, 129, 130, 131, 132, 133, 134, 135, 136, 137, 138, 139, 140, 141, 142, 143, 144, 145, 146, 147, 148, 149, 150, 151, 152, 153, 154, 155, 198, 199, 200, 201, 202, 203, 204, 205, 206, 207, 208, 209, 210, 211, 212, 213, 214, 215, 216, 217, 218, 219, 220, 221, 222, 223, 224, 225, 226, 227, 228, 229] rfl (by decide +kernel)) (goodIn_sub (fun _ h => List.mem_cons_of_mem _ (List.mem_append_left _ (List.mem_append_right _ h))) (by decide +kernel))) (goodIn_sub (fun _ h => List.mem_cons_of_mem _ (List.mem_append_right _ h)) (by decide +kernel))
set_option maxRecDepth 100000 in
set_option maxHeartbeats 4000000 in
theorem gL_isLetterRight_X3_verdict : GoodIn wsL_isLetterRight (wsV RL 64 RX3 yX3_verdict wsX3_verdict) := goodIn_app (goodIn_of _ (by decide +kernel)) ggL_isLetterRight_X3_verdict
set_option maxRecDepth 100000 in
set_option maxHeartbeats 4000000 in
theorem ggL_isLetterRight_X3_chains : GoodIn wsL_isLetterRight wsX3_chains := goodIn_ca (goodIn_r _ [159, 6, 7, 8, 9, 4, 10, 11, 12, 13, 14, 15, 16, 17, 32, 33, 34, 35, 36, 37, 38, 39, 40, 41, 42, 43, 44, 45, 46, 47, 48, 49, 50, 51, 52, 53, 54, 55, 56, 57, 58, 59, 60, 61, 62, 63, 64, 65, 66, 67, 68, 69, 70, 71, 72, 73, 74, 75, 76, 77, 78, 79, 80, 81, 82, 83, 84, 85, 86, 87, 88, 89, 90, 91, 92, 93, 94, 95, 96, 97, 98, 99, 100, 101, 102, 103, 104, 105, 106, 107, 108, 109, 110, 111, 198, 199, 200, 201, 202, 203, 204, 205, 206, 207, 208, 209, 210, 211, 212, 213, 214, 215, 216, 217, 218, 219, 220, 221, 222, 223, 224, 225, 226, 227, 228, 229] rfl (by decide +kernel)) (goodIn_sub (fun _ h => List.mem_cons_of_mem _ (List.mem_append_left _ (List.mem_append_right _ h))) (by decide +kernel))
set_option maxRecDepth 100000 in
set_option maxHeartbeats 4000000 in
theorem gL_isLetterRight_X3_chains : GoodIn wsL_isLetterRight (wsV RL 102 RX3 yX3_chains wsX3_chains) := goodIn_app (goodIn_of _ (by decide +kernel)) ggL_isLetterRight_X3_chains
set_option maxRecDepth 100000 in
set_option maxHeartbeats 4000000 in
theorem ggL_isLetterRight_X3_flawAt : GoodIn wsL_isLetterRight wsX3_flawAt := goodIn_ca (goodIn_ca (goodIn_r _ [163, 6, 7, 8, 9, 4, 10, 11, 12, 13, 14, 15, 16, 17, 18, 19, 20, 21, 22, 23, 24, 25, 26, 27, 28, 29, 30, 31, 32, 33, 34, 35, 36, 37, 38, 39, 40, 41, 42, 43, 44, 45, 46, 47, 48, 49, 50, 51, 52, 53, 54, 55, 56, 57, 58, 59, 60, 61, 62, 63, 64, 65, 66, 67, 68, 69, 70, 71, 72, 73, 74, 75, 76, 77, 78, 79, 80, 81, 82, 83, 84, 85, 86, 87, 88, 89, 90, 91, 92, 93, 94, 95, 96, 97, 98, 99, 100, 101, 102, 103, 104, 105, 106, 107, 108, 109, 110, 111, 164, 165, 166, 167, 116, 117, 118, 119, 120, 121, 122, 123, 124, 125, 126, 127, 128, 129, 130, 131, 132, 133, 134, 135, 136, 137, 138, 139, 140, 141, 142, 143, 144, 145, 146, 147, 148, 149, 150, 151, 152, 153, 154, 155, 198, 199, 200, 201, 202, 203, 204, 205, 206, 207, 208, 209, 210, 211, 212, 213, 214, 215, 216, 217, 218, 219, 220, 221, 222, 223, 224, 225, 226, 227, 228, 229] rfl (by decide +kernel)) (goodIn_sub (fun _ h => List.mem_cons_of_mem _ (List.mem_append_left _ (List.mem_append_right _ h))) (by decide +kernel))) (goodIn_sub (fun _ h => List.mem_cons_of_mem _ (List.mem_append_right _ h)) (by decide +kernel))

