/-! names, printed: 9 -/
set_option maxRecDepth 20000 in
theorem gX4_verdicts_X4_verdictNow : GoodIn wsX4_verdicts (wsV RX4 139 RX4 yX4_verdictNow wsX4_verdictNow) := goodIn_app (goodIn_of _ (by decide +kernel)) ggX4_verdicts_X4_verdictNow
set_option maxRecDepth 100000 in
set_option maxHeartbeats 4000000 in
theorem ggX4_otherwise_X4_isLetter : GoodIn wsX4_otherwise wsX4_isLetter := goodIn_r _ [8, 2, 9, 10, 11, 12, 13, 14, 15, 16, 7, 17, 227, 228, 229, 230, 231, 232, 233, 234, 235, 236, 237] rfl (by decide +kernel)
set_option maxRecDepth 20000 in
theorem gX4_otherwise_X4_isLetter : GoodIn wsX4_otherwise (wsV RX4 156 RX4 yX4_isLetter wsX4_isLetter) := goodIn_app (goodIn_of _ (by decide +kernel)) ggX4_otherwise_X4_isLetter
set_option maxRecDepth 100000 in
set_option maxHeartbeats 4000000 in
theorem ggX4_otherwise_X4_refuse : GoodIn wsX4_otherwise wsX4_refuse := goodIn_r _ [21, 1, 227, 228, 229, 230, 231, 232, 233, 234] rfl (by decide +kernel)
set_option maxRecDepth 20000 in
theorem gX4_otherwise_X4_refuse : GoodIn wsX4_otherwise (wsV RX4 149 RX4 yX4_refuse wsX4_refuse) := goodIn_app (goodIn_of _ (by decide +kernel)) ggX4_otherwise_X4_refuse
set_option maxRecDepth 100000 in
set_option maxHeartbeats 4000000 in
theorem ggX4_otherwise_X4_isAt : GoodIn wsX4_otherwise wsX4_isAt := goodIn_r _ [24, 25, 26, 7, 27, 15, 16, 17] rfl (by decide +kernel)
set_option maxRecDepth 20000 in
theorem gX4_otherwise_X4_isAt : GoodIn wsX4_otherwise (va_wsS RX4 190 yX4_isAt wsX4_isAt) := goodIn_app (goodIn_of _ (by decide +kernel)) ggX4_otherwise_X4_isAt
set_option maxRecDepth 100000 in
set_option maxHeartbeats 4000000 in
theorem ggX4_otherwise_X4_verdicts : GoodIn wsX4_otherwise wsX4_verdicts := goodIn_r _ [31, 2, 32, 9, 10, 11, 12, 13, 14, 33, 34, 35, 7, 36, 3, 37, 38, 39, 40, 41, 42, 43, 44, 45, 46, 47, 48, 49, 50, 51, 52, 53, 54, 55, 56, 57, 58, 59, 60, 61, 62, 63, 64, 65, 66, 67, 68, 69, 70, 71, 72, 73, 74, 75, 76, 77, 78, 79, 80, 81, 82, 83, 84, 85, 86, 87, 88, 89, 90, 91, 92, 93, 94, 95, 96, 97, 98, 99, 100, 101, 102, 103, 104, 105, 106, 107, 108, 109, 110, 111, 112, 113, 114, 115, 116, 117, 118, 119, 120, 121, 122, 123, 124, 125, 126, 127, 128, 129, 130, 131, 132, 133, 134, 135, 136, 137, 138, 139, 140, 141, 142, 143, 144, 145, 146, 147, 148, 149, 150, 151, 152, 153, 154, 155, 156, 157, 158, 159, 160, 161, 162, 163, 164, 165, 166, 167, 168, 169, 170, 171, 172, 173, 174, 175, 176, 177, 178, 179, 180, 181, 182, 183, 184, 185, 186, 187, 188, 189, 190, 191, 192, 193, 194, 195, 196, 197, 198, 199, 200, 201, 202, 203, 204, 205, 206, 207, 208, 209, 210, 211, 212, 213, 214, 215, 216, 217, 218, 219, 220, 221, 222, 227, 228, 229, 230, 231, 232, 233, 234, 235, 236, 237, 238, 239, 240, 241] rfl (by decide +kernel)
set_option maxRecDepth 20000 in
theorem gX4_otherwise_X4_verdicts : GoodIn wsX4_otherwise (wsV RX4 196 RX4 yX4_verdicts wsX4_verdicts) := goodIn_app (goodIn_of _ (by decide +kernel)) ggX4_otherwise_X4_verdicts
set_option maxRecDepth 100000 in
set_option maxHeartbeats 4000000 in
theorem ggX4_otherwise_Jx4a65c_get_915e3 : GoodIn wsX4_otherwise wsJx4a65c_get_915e3 := goodIn_r _ [69, 14, 70, 71, 72, 73, 74, 75, 76, 77, 78, 79, 80, 12, 81, 61, 235, 236, 237] rfl (by decide +kernel)
set_option maxRecDepth 20000 in
theorem gX4_otherwise_Jx4a65c_get_915e3 : GoodIn wsX4_otherwise (wsV RX4 38 RJx4a65c yJx4a65c_get_915e3 wsJx4a65c_get_915e3) := goodIn_app (goodIn_of _ (by decide +kernel)) ggX4_otherwise_Jx4a65c_get_915e3
set_option maxRecDepth 100000 in
set_option maxHeartbeats 4000000 in
theorem ggX4_otherwise_X4_forget : GoodIn wsX4_otherwise wsX4_forget := goodIn_r _ [226, 53, 227, 228, 229, 230, 231, 232, 233, 234] rfl (by decide +kernel)
set_option maxRecDepth 20000 in
theorem gX4_otherwise_X4_forget : GoodIn wsX4_otherwise (wsV RX4 153 RX4 yX4_forget wsX4_forget) := goodIn_app (goodIn_of _ (by decide +kernel)) ggX4_otherwise_X4_forget
set_option maxRecDepth 100000 in
set_option maxHeartbeats 4000000 in
theorem ggX4_stolen_X4_isKey : GoodIn wsX4_stolen wsX4_isKey := goodIn_r _ [7, 8, 9, 6, 10] rfl (by decide +kernel)
set_option maxRecDepth 20000 in
theorem gX4_stolen_X4_isKey : GoodIn wsX4_stolen (va_wsS RX4 146 yX4_isKey wsX4_isKey) := goodIn_app (goodIn_of _ (by decide +kernel)) ggX4_stolen_X4_isKey
set_option maxRecDepth 100000 in
set_option maxHeartbeats 4000000 in
theorem ggX4_stolen_X4_isAt : GoodIn wsX4_stolen wsX4_isAt := goodIn_r _ [13, 14, 15, 6, 16, 8, 9, 10] rfl (by decide +kernel)
set_option maxRecDepth 20000 in
theorem gX4_stolen_X4_isAt : GoodIn wsX4_stolen (va_wsS RX4 190 yX4_isAt wsX4_isAt) := goodIn_app (goodIn_of _ (by decide +kernel)) ggX4_stolen_X4_isAt
set_option maxRecDepth 100000 in
set_option maxHeartbeats 4000000 in
theorem ggX4_stolen_X4_refuse : GoodIn wsX4_stolen wsX4_refuse := goodIn_r _ [20, 1, 210, 211, 212, 213, 214, 215, 216, 217] rfl (by decide +kernel)
set_option maxRecDepth 20000 in
theorem gX4_stolen_X4_refuse : GoodIn wsX4_stolen (wsV RX4 149 RX4 yX4_refuse wsX4_refuse) := goodIn_app (goodIn_of _ (by decide +kernel)) ggX4_stolen_X4_refuse
set_option maxRecDepth 100000 in
set_option maxHeartbeats 4000000 in
theorem ggX4_stolen_Jx4a65c_size_8abf5 : GoodIn wsX4_stolen wsJx4a65c_size_8abf5 := goodIn_r _ [25, 26, 218, 219, 220] rfl (by decide +kernel)
set_option maxRecDepth 20000 in
theorem gX4_stolen_Jx4a65c_size_8abf5 : GoodIn wsX4_stolen (wsV RX4 54 RJx4a65c yJx4a65c_size_8abf5 wsJx4a65c_size_8abf5) := goodIn_app (goodIn_of _ (by decide +kernel)) ggX4_stolen_Jx4a65c_size_8abf5
set_option maxRecDepth 100000 in
set_option maxHeartbeats 4000000 in
theorem ggX4_stolen_X4_holding : GoodIn wsX4_stolen wsX4_holding := goodIn_r _ [30, 3, 31, 32, 33, 6, 34, 35, 36, 37, 38, 24, 39, 40, 41, 42, 43, 44, 2, 45, 21, 22, 23, 25, 26, 46, 47, 48, 49, 50, 51, 52, 53, 54, 55, 56, 57, 58, 59, 60, 61, 62, 63, 64, 65, 66, 67, 68, 69, 70, 71, 72, 73, 74, 75, 76, 77, 78, 79, 80, 81, 82, 83, 84, 85, 86, 87, 88, 89, 90, 91, 92, 93, 94, 95, 96, 97, 98, 99, 100, 101, 102, 103, 104, 105, 106, 107, 108, 109, 110, 111, 112, 113, 114, 115, 116, 117, 118, 119, 120, 121, 122, 123, 124, 125, 126, 127, 128, 129, 130, 131, 132, 133, 134, 135, 136, 137, 138, 139, 140, 141, 142, 143, 144, 145, 146, 147, 148, 149, 150, 151, 152, 153, 154, 155, 156, 157, 158, 159, 160, 161, 162, 163, 164, 165, 166, 167, 168, 169, 170, 171, 172, 173, 174, 175, 176, 177, 178, 179, 180, 181, 182, 183, 184, 185, 186, 187, 188, 189, 190, 191, 192, 193, 194, 195, 196, 197, 198, 199, 200, 201, 202, 203, 204, 205, 206, 207, 208, 209, 210, 211, 212, 213, 214, 215, 216, 217, 218, 219, 220, 221, 222, 223, 224] rfl (by decide +kernel)
set_option maxRecDepth 20000 in
theorem gX4_stolen_X4_holding : GoodIn wsX4_stolen (wsV RX4 132 RX4 yX4_holding wsX4_holding) := goodIn_app (goodIn_of _ (by decide +kernel)) ggX4_stolen_X4_holding
set_option maxRecDepth 100000 in
set_option maxHeartbeats 4000000 in
theorem ggX4_stolen_Jx4a65c_get_915e3 : GoodIn wsX4_stolen wsJx4a65c_get_915e3 := goodIn_r _ [60, 26, 61, 62, 63, 64, 65, 66, 67, 68, 69, 70, 71, 24, 72, 52, 218, 219, 220] rfl (by decide +kernel)
set_option maxRecDepth 20000 in
theorem gX4_stolen_Jx4a65c_get_915e3 : GoodIn wsX4_stolen (wsV RX4 38 RJx4a65c yJx4a65c_get_915e3 wsJx4a65c_get_915e3) := goodIn_app (goodIn_of _ (by decide +kernel)) ggX4_stolen_Jx4a65c_get_915e3
set_option maxRecDepth 100000 in
set_option maxHeartbeats 4000000 in
theorem ggX4_digest_X4_manyNow : GoodIn wsX4_digest wsX4_manyNow := goodIn_r _ [11, 4, 6, 12, 13, 14, 15, 16, 17, 18, 19, 20, 21, 10, 22, 5, 23, 24, 25, 26, 27, 28, 29, 30, 31, 32, 33, 34, 35, 36, 37, 38, 39, 40, 41, 42, 43, 44, 45, 46, 47, 48, 49, 50, 51, 52, 53, 54, 55, 56, 57, 58, 59, 60, 61, 62, 63, 64, 65, 66, 67, 68, 69, 70, 71, 72, 73, 74, 75, 76, 77, 78, 79, 80, 81, 82, 83, 84, 85, 86, 87, 88, 89, 90, 91, 92, 93, 94, 95, 96, 97, 98, 99, 100, 101, 102, 103, 104, 105, 106, 107, 108, 109, 110, 111, 112, 113, 114, 115, 116, 117, 118, 119, 120, 121, 122, 123, 124, 125, 126, 127, 128, 129, 130, 131, 132, 133, 134, 135, 136, 137, 138, 139, 140, 141, 142, 143, 144, 145, 146, 147, 148, 149, 150, 151, 152, 153, 154, 234, 235, 236, 237, 238, 239, 240, 241, 242, 243, 244, 245, 246, 247, 248] rfl (by decide +kernel)
set_option maxRecDepth 20000 in
theorem gX4_digest_X4_manyNow : GoodIn wsX4_digest (wsV RX4 177 RX4 yX4_manyNow wsX4_manyNow) := goodIn_app (goodIn_of _ (by decide +kernel)) ggX4_digest_X4_manyNow
set_option maxRecDepth 100000 in
set_option maxHeartbeats 4000000 in
theorem ggX4_digest_X4_add : GoodIn wsX4_digest wsX4_add := goodIn_r _ [158, 3, 159, 234, 235, 236, 237, 238, 239, 240, 241] rfl (by decide +kernel)
set_option maxRecDepth 20000 in
theorem gX4_digest_X4_add : GoodIn wsX4_digest (wsV RX4 208 RX4 yX4_add wsX4_add) := goodIn_app (goodIn_of _ (by decide +kernel)) ggX4_digest_X4_add
set_option maxRecDepth 100000 in
set_option maxHeartbeats 4000000 in
theorem ggX4_digest_Jx4a65c_size_8abf5 : GoodIn wsX4_digest wsJx4a65c_size_8abf5 := goodIn_r _ [17, 18, 242, 243, 244] rfl (by decide +kernel)
set_option maxRecDepth 20000 in
theorem gX4_digest_Jx4a65c_size_8abf5 : GoodIn wsX4_digest (wsV RX4 54 RJx4a65c yJx4a65c_size_8abf5 wsJx4a65c_size_8abf5) := goodIn_app (goodIn_of _ (by decide +kernel)) ggX4_digest_Jx4a65c_size_8abf5
set_option maxRecDepth 100000 in
set_option maxHeartbeats 4000000 in
theorem ggX4_digest_Jx4a65c_get_915e3 : GoodIn wsX4_digest wsJx4a65c_get_915e3 := goodIn_r _ [75, 18, 76, 77, 78, 79, 80, 81, 82, 83, 84, 85, 86, 16, 87, 67, 242, 243, 244] rfl (by decide +kernel)
set_option maxRecDepth 20000 in
theorem gX4_digest_Jx4a65c_get_915e3 : GoodIn wsX4_digest (wsV RX4 38 RJx4a65c yJx4a65c_get_915e3 wsJx4a65c_get_915e3) := goodIn_app (goodIn_of _ (by decide +kernel)) ggX4_digest_Jx4a65c_get_915e3
set_option maxRecDepth 100000 in
set_option maxHeartbeats 4000000 in
theorem ggX4_digest_X4_ofLetterNow : GoodIn wsX4_digest wsX4_ofLetterNow := goodIn_r _ [162, 88, 89, 10, 90, 91, 92, 93] rfl (by decide +kernel)
set_option maxRecDepth 20000 in
theorem gX4_digest_X4_ofLetterNow : GoodIn wsX4_digest (va_wsS RX4 180 yX4_ofLetterNow wsX4_ofLetterNow) := goodIn_app (goodIn_of _ (by decide +kernel)) ggX4_digest_X4_ofLetterNow
set_option maxRecDepth 100000 in
set_option maxHeartbeats 4000000 in
theorem ggX4_digest_X4_chainsOf : GoodIn wsX4_digest wsX4_chainsOf := goodIn_r _ [166, 61, 167, 168, 169, 16, 59, 55, 56, 57, 10, 58, 12, 4, 60, 5, 13, 14, 15, 17, 18, 62, 63, 64, 65, 66, 39, 67, 68, 69, 70, 71, 72, 73, 74, 75, 76, 77, 78, 79, 80, 81, 82, 83, 84, 85, 86, 87, 88, 89, 90, 91, 92, 93, 94, 95, 96, 97, 98, 99, 100, 101, 102, 103, 104, 105, 106, 107, 108, 109, 110, 111, 112, 113, 114, 115, 116, 117, 118, 119, 120, 121, 122, 123, 124, 125, 126, 127, 128, 129, 130, 131, 132, 133, 134, 135, 136, 137, 138, 139, 140, 141, 142, 143, 144, 145, 146, 147, 170, 171, 172, 173, 174, 175, 176, 177, 178, 179, 180, 181, 182, 35, 36, 183, 184, 185, 186, 187, 188, 189, 190, 191, 234, 235, 236, 237, 238, 239, 240, 241, 242, 243, 244] rfl (by decide +kernel)
set_option maxRecDepth 20000 in
theorem gX4_digest_X4_chainsOf : GoodIn wsX4_digest (wsV RX4 125 RX4 yX4_chainsOf wsX4_chainsOf) := goodIn_app (goodIn_of _ (by decide +kernel)) ggX4_digest_X4_chainsOf
set_option maxRecDepth 100000 in
set_option maxHeartbeats 4000000 in
theorem ggX4_digest_X4_verdictNow : GoodIn wsX4_digest wsX4_verdictNow := goodIn_r _ [195, 5, 196, 197, 198, 10, 199, 163, 164, 165, 166, 61, 167, 168, 169, 16, 59, 55, 56, 57, 58, 12, 4, 60, 13, 14, 15, 17, 18, 62, 63, 64, 65, 66, 39, 67, 68, 69, 70, 71, 72, 73, 74, 75, 76, 77, 78, 79, 80, 81, 82, 83, 84, 85, 86, 87, 88, 89, 90, 91, 92, 93, 94, 95, 96, 97, 98, 99, 100, 101, 102, 103, 104, 105, 106, 107, 108, 109, 110, 111, 112, 113, 114, 115, 116, 117, 118, 119, 120, 121, 122, 123, 124, 125, 126, 127, 128, 129, 130, 131, 132, 133, 134, 135, 136, 137, 138, 139, 140, 141, 142, 143, 144, 145, 146, 147, 170, 171, 172, 173, 174, 175, 176, 177, 178, 179, 180, 181, 182, 35, 36, 183, 184, 185, 186, 187, 188, 189, 190, 191, 23, 24, 25, 26, 27, 28, 29, 30, 31, 32, 33, 34, 37, 38, 40, 41, 42, 43, 44, 45, 46, 47, 48, 49, 50, 51, 52, 53, 54, 200, 201, 202, 203, 204, 205, 206, 207, 208, 209, 210, 211, 212, 213, 214, 215, 216, 217, 218, 6, 219, 220, 221, 222, 223, 224, 225, 226, 234, 235, 236, 237, 238, 239, 240, 241, 242, 243, 244, 245, 246, 247, 248] rfl (by decide +kernel)
set_option maxRecDepth 20000 in
theorem gX4_digest_X4_verdictNow : GoodIn wsX4_digest (wsV RX4 139 RX4 yX4_verdictNow wsX4_verdictNow) := goodIn_app (goodIn_of _ (by decide +kernel)) ggX4_digest_X4_verdictNow
set_option maxRecDepth 100000 in
set_option maxHeartbeats 4000000 in
theorem ggX4_digest_X4_flawAtNow : GoodIn wsX4_digest wsX4_flawAtNow := goodIn_r _ [230, 5, 192, 193, 194, 10, 195, 196, 197, 198, 199, 163, 164, 165, 166, 61, 167, 168, 169, 16, 59, 55, 56, 57, 58, 12, 4, 60, 13, 14, 15, 17, 18, 62, 63, 64, 65, 66, 39, 67, 68, 69, 70, 71, 72, 73, 74, 75, 76, 77, 78, 79, 80, 81, 82, 83, 84, 85, 86, 87, 88, 89, 90, 91, 92, 93, 94, 95, 96, 97, 98, 99, 100, 101, 102, 103, 104, 105, 106, 107, 108, 109, 110, 111, 112, 113, 114, 115, 116, 117, 118, 119, 120, 121, 122, 123, 124, 125, 126, 127, 128, 129, 130, 131, 132, 133, 134, 135, 136, 137, 138, 139, 140, 141, 142, 143, 144, 145, 146, 147, 170, 171, 172, 173, 174, 175, 176, 177, 178, 179, 180, 181, 182, 35, 36, 183, 184, 185, 186, 187, 188, 189, 190, 191, 23, 24, 25, 26, 27, 28, 29, 30, 31, 32, 33, 34, 37, 38, 40, 41, 42, 43, 44, 45, 46, 47, 48, 49, 50, 51, 52, 53, 54, 200, 201, 202, 203, 204, 205, 206, 207, 208, 209, 210, 211, 212, 213, 214, 215, 216, 217, 218, 6, 219, 220, 221, 222, 223, 224, 225, 226, 234, 235, 236, 237, 238, 239, 240, 241, 242, 243, 244, 245, 246, 247, 248] rfl (by decide +kernel)
set_option maxRecDepth 20000 in
theorem gX4_digest_X4_flawAtNow : GoodIn wsX4_digest (wsV RX4 193 RX4 yX4_flawAtNow wsX4_flawAtNow) := goodIn_app (goodIn_of _ (by decide +kernel)) ggX4_digest_X4_flawAtNow
set_option maxRecDepth 100000 in
set_option maxHeartbeats 4000000 in
theorem ggX4_digest_Jx4a65c_iterator_32c93 : GoodIn wsX4_digest wsJx4a65c_iterator_32c93 := goodIn_r _ [26, 27, 28, 29, 30, 31, 32, 33, 34, 35, 36, 37, 38, 39, 40, 245, 246, 247, 248, 242, 243, 244] rfl (by decide +kernel)
set_option maxRecDepth 20000 in
theorem gX4_digest_Jx4a65c_iterator_32c93 : GoodIn wsX4_digest (wsV RX4 89 RJx4a65c yJx4a65c_iterator_32c93 wsJx4a65c_iterator_32c93) := goodIn_app (goodIn_of _ (by decide +kernel)) ggX4_digest_Jx4a65c_iterator_32c93
set_option maxRecDepth 100000 in
set_option maxHeartbeats 4000000 in
theorem ggX4_digest_Jx35411_hasNext_aae02 : GoodIn wsX4_digest wsJx35411_hasNext_aae02 := goodIn_r _ [44, 45, 33, 245, 246, 247, 248, 242, 243, 244] rfl (by decide +kernel)
set_option maxRecDepth 20000 in
theorem gX4_digest_Jx35411_hasNext_aae02_f93Jx35411 : GoodIn wsX4_digest (va_wsF RX4 93 RJx35411 ⟨"java/util/Iterator", "hasNext", "()Z"⟩ yJx35411_hasNext_aae02 wsJx35411_hasNext_aae02) := goodIn_app (goodIn_of _ (by decide +kernel)) ggX4_digest_Jx35411_hasNext_aae02
set_option maxRecDepth 100000 in
set_option maxHeartbeats 4000000 in
theorem ggX4_digest_Jx35411_next_0502b : GoodIn wsX4_digest wsJx35411_next_0502b := goodIn_r _ [49, 45, 33, 50, 37, 51, 52, 53, 29, 54, 38, 39, 40, 245, 246, 247, 248, 242, 243, 244] rfl (by decide +kernel)
set_option maxRecDepth 20000 in
theorem gX4_digest_Jx35411_next_0502b_f99Jx35411 : GoodIn wsX4_digest (va_wsF RX4 99 RJx35411 ⟨"java/util/Iterator", "next", "()Ljava/lang/Object;"⟩ yJx35411_next_0502b wsJx35411_next_0502b) := goodIn_app (goodIn_of _ (by decide +kernel)) ggX4_digest_Jx35411_next_0502b
set_option maxRecDepth 100000 in
set_option maxHeartbeats 4000000 in
theorem ggX4_digest_X4_ofListNow : GoodIn wsX4_digest wsX4_ofListNow := goodIn_r _ [233, 220, 221, 10, 222, 91, 92, 93] rfl (by decide +kernel)
set_option maxRecDepth 20000 in
theorem gX4_digest_X4_ofListNow : GoodIn wsX4_digest (va_wsS RX4 184 yX4_ofListNow wsX4_ofListNow) := goodIn_app (goodIn_of _ (by decide +kernel)) ggX4_digest_X4_ofListNow
set_option maxRecDepth 100000 in
set_option maxHeartbeats 4000000 in
theorem ggJxc12de_init_da8c8_Jxa1e45_init_da8c8 : GoodIn wsJxc12de_init_da8c8 wsJxa1e45_init_da8c8 := goodIn_r _ [5, 6, 7, 8] rfl (by decide +kernel)
set_option maxRecDepth 20000 in
theorem gJxc12de_init_da8c8_Jxa1e45_init_da8c8 : GoodIn wsJxc12de_init_da8c8 (wsJxa1e45_init_da8c8) := ggJxc12de_init_da8c8_Jxa1e45_init_da8c8
set_option maxRecDepth 100000 in
set_option maxHeartbeats 4000000 in
theorem ggJx35411_next_0502b_Jx35411_checkForComodification_da8c8 : GoodIn wsJx35411_next_0502b wsJx35411_checkForComodification_da8c8 := goodIn_r _ [9, 2, 10, 11, 12, 13, 14, 15, 16, 17, 18, 19] rfl (by decide +kernel)
set_option maxRecDepth 20000 in
theorem gJx35411_next_0502b_Jx35411_checkForComodification_da8c8 : GoodIn wsJx35411_next_0502b (wsV RJx35411 31 RJx35411 yJx35411_checkForComodification_da8c8 wsJx35411_checkForComodification_da8c8) := goodIn_app (goodIn_of _ (by decide +kernel)) ggJx35411_next_0502b_Jx35411_checkForComodification_da8c8
set_option maxRecDepth 100000 in
set_option maxHeartbeats 4000000 in
theorem ggJx4a65c_init_da8c8_Jxc12de_init_da8c8 : GoodIn wsJx4a65c_init_da8c8 wsJxc12de_init_da8c8 := goodIn_r _ [6, 7, 8, 9, 10, 11, 12, 13, 14, 15, 16, 17] rfl (by decide +kernel)
set_option maxRecDepth 20000 in
theorem gJx4a65c_init_da8c8_Jxc12de_init_da8c8 : GoodIn wsJx4a65c_init_da8c8 (wsJxc12de_init_da8c8) := ggJx4a65c_init_da8c8_Jxc12de_init_da8c8
set_option maxRecDepth 100000 in
set_option maxHeartbeats 4000000 in
theorem ggJx4a65c_grow_92f84_J8_newLength_cabcc : GoodIn wsJx4a65c_grow_92f84 wsJ8_newLength_cabcc := goodIn_r _ [11, 12, 4, 5, 6, 13, 14, 15, 10, 16] rfl (by decide +kernel)
set_option maxRecDepth 20000 in
theorem gJx4a65c_grow_92f84_J8_newLength_cabcc : GoodIn wsJx4a65c_grow_92f84 (va_wsS RJx4a65c 73 yJ8_newLength_cabcc wsJ8_newLength_cabcc) := goodIn_app (goodIn_of _ (by decide +kernel)) ggJx4a65c_grow_92f84_J8_newLength_cabcc
set_option maxRecDepth 100000 in
set_option maxHeartbeats 4000000 in
theorem ggJx4a65c_grow_92f84_J7_copyOf_1904c : GoodIn wsJx4a65c_grow_92f84 wsJ7_copyOf_1904c := goodIn_r _ [20, 21, 22, 23, 24, 25, 26, 19, 27, 28, 29, 30, 31, 5, 32, 33, 34, 35, 36] rfl (by decide +kernel)
set_option maxRecDepth 20000 in
theorem gJx4a65c_grow_92f84_J7_copyOf_1904c : GoodIn wsJx4a65c_grow_92f84 (va_wsS RJx4a65c 66 yJ7_copyOf_1904c wsJ7_copyOf_1904c) := goodIn_app (goodIn_of _ (by decide +kernel)) ggJx4a65c_grow_92f84_J7_copyOf_1904c
set_option maxRecDepth 100000 in
set_option maxHeartbeats 4000000 in
theorem ggJx4a65c_grow_d5877_Jx4a65c_grow_92f84 : GoodIn wsJx4a65c_grow_d5877 wsJx4a65c_grow_92f84 := goodIn_r _ [6, 7, 8, 9, 10, 11, 12, 13, 14, 15, 16, 17, 18, 19, 20, 21, 22, 23, 24, 25, 26, 27, 28, 29, 30, 31, 32, 33, 34, 35, 36, 37, 38, 39, 40, 41, 42, 43, 44, 45] rfl (by decide +kernel)
set_option maxRecDepth 20000 in
theorem gJx4a65c_grow_d5877_Jx4a65c_grow_92f84 : GoodIn wsJx4a65c_grow_d5877 (wsV RJx4a65c 69 RJx4a65c yJx4a65c_grow_92f84 wsJx4a65c_grow_92f84) := goodIn_app (goodIn_of _ (by decide +kernel)) ggJx4a65c_grow_d5877_Jx4a65c_grow_92f84
