/-! names, printed: 4 -/
set_option maxRecDepth 20000 in
theorem gX4_isCalledBack_X4_signedNow : GoodIn wsX4_isCalledBack (va_wsS RX4 47 yX4_signedNow wsX4_signedNow) := goodIn_app (goodIn_of _ (by decide +kernel)) ggX4_isCalledBack_X4_signedNow
set_option maxRecDepth 100000 in
set_option maxHeartbeats 4000000 in
theorem ggX4_isOutOfBound_Jx4a65c_get_915e3 : GoodIn wsX4_isOutOfBound wsJx4a65c_get_915e3 := goodIn_r _ [7, 8, 9, 10, 11, 12, 13, 14, 15, 16, 17, 18, 19, 6, 20, 21, 34, 35, 36] rfl (by decide +kernel)
set_option maxRecDepth 20000 in
theorem gX4_isOutOfBound_Jx4a65c_get_915e3 : GoodIn wsX4_isOutOfBound (wsV RX4 38 RJx4a65c yJx4a65c_get_915e3 wsJx4a65c_get_915e3) := goodIn_app (goodIn_of _ (by decide +kernel)) ggX4_isOutOfBound_Jx4a65c_get_915e3
set_option maxRecDepth 100000 in
set_option maxHeartbeats 4000000 in
theorem ggX4_isOutOfBound_X4_isUnderNow : GoodIn wsX4_isOutOfBound wsX4_isUnderNow := goodIn_r _ [25] rfl (by decide +kernel)
set_option maxRecDepth 20000 in
theorem gX4_isOutOfBound_X4_isUnderNow : GoodIn wsX4_isOutOfBound (va_wsS RX4 110 yX4_isUnderNow wsX4_isUnderNow) := goodIn_app (goodIn_of _ (by decide +kernel)) ggX4_isOutOfBound_X4_isUnderNow
set_option maxRecDepth 100000 in
set_option maxHeartbeats 4000000 in
theorem ggX4_flaw_Jx4a65c_get_915e3 : GoodIn wsX4_flaw wsJx4a65c_get_915e3 := goodIn_r _ [7, 8, 9, 10, 11, 12, 13, 14, 15, 16, 17, 18, 19, 6, 20, 21, 85, 86, 87] rfl (by decide +kernel)
set_option maxRecDepth 20000 in
theorem gX4_flaw_Jx4a65c_get_915e3 : GoodIn wsX4_flaw (wsV RX4 38 RJx4a65c yJx4a65c_get_915e3 wsJx4a65c_get_915e3) := goodIn_app (goodIn_of _ (by decide +kernel)) ggX4_flaw_Jx4a65c_get_915e3
set_option maxRecDepth 100000 in
set_option maxHeartbeats 4000000 in
theorem ggX4_flaw_X4_isOutOfBound : GoodIn wsX4_flaw wsX4_isOutOfBound := goodIn_r _ [26, 1, 2, 3, 4, 5, 6, 7, 8, 9, 10, 11, 12, 13, 14, 15, 16, 17, 18, 19, 20, 21, 27, 28, 25, 29, 77, 78, 79, 80, 81, 82, 83, 84, 85, 86, 87] rfl (by decide +kernel)
set_option maxRecDepth 20000 in
theorem gX4_flaw_X4_isOutOfBound : GoodIn wsX4_flaw (wsV RX4 113 RX4 yX4_isOutOfBound wsX4_isOutOfBound) := goodIn_app (goodIn_of _ (by decide +kernel)) ggX4_flaw_X4_isOutOfBound
set_option maxRecDepth 100000 in
set_option maxHeartbeats 4000000 in
theorem ggX4_flaw_X4_isCalledBack : GoodIn wsX4_flaw wsX4_isCalledBack := goodIn_r _ [33, 34, 2, 35, 36, 37, 38, 6, 39, 40, 41, 42, 43, 44, 45, 46, 47, 48, 49, 50, 51, 52, 53, 54, 55, 56, 57, 58, 59, 60, 61, 62, 63, 64, 65, 66, 67, 68, 69, 25, 70, 71, 72, 73, 74, 75, 76, 77, 78, 79, 80, 81, 82, 83, 84, 88, 89, 90, 91, 85, 86, 87] rfl (by decide +kernel)
set_option maxRecDepth 20000 in
theorem gX4_flaw_X4_isCalledBack : GoodIn wsX4_flaw (wsV RX4 117 RX4 yX4_isCalledBack wsX4_isCalledBack) := goodIn_app (goodIn_of _ (by decide +kernel)) ggX4_flaw_X4_isCalledBack
set_option maxRecDepth 100000 in
set_option maxHeartbeats 4000000 in
theorem ggX4_flawed_X4_flaw : GoodIn wsX4_flawed wsX4_flaw := goodIn_r _ [5, 6, 7, 8, 9, 10, 11, 12, 13, 14, 15, 16, 17, 18, 19, 20, 21, 22, 23, 24, 25, 26, 27, 28, 29, 4, 30, 31, 32, 33, 34, 35, 36, 37, 38, 39, 40, 41, 42, 43, 44, 45, 46, 47, 48, 49, 50, 51, 52, 53, 54, 55, 56, 57, 58, 59, 60, 61, 62, 63, 64, 65, 66, 67, 68, 69, 70, 71, 72, 73, 74, 75, 76, 77, 78, 79, 80, 81, 82, 83, 84, 85, 86, 87, 88, 89, 90, 91, 92, 93, 94, 95] rfl (by decide +kernel)
set_option maxRecDepth 20000 in
theorem gX4_flawed_X4_flaw : GoodIn wsX4_flawed (wsV RX4 121 RX4 yX4_flaw wsX4_flaw) := goodIn_app (goodIn_of _ (by decide +kernel)) ggX4_flawed_X4_flaw
set_option maxRecDepth 100000 in
set_option maxHeartbeats 4000000 in
theorem ggX4_holding_X4_chainsOf : GoodIn wsX4_holding wsX4_chainsOf := goodIn_r _ [6, 7, 8, 9, 10, 11, 12, 13, 14, 15, 5, 16, 17, 18, 19, 1, 20, 21, 22, 23, 24, 25, 26, 27, 28, 29, 30, 31, 32, 33, 34, 35, 36, 37, 38, 39, 40, 41, 42, 43, 44, 45, 46, 47, 48, 49, 50, 51, 52, 53, 54, 55, 56, 57, 58, 59, 60, 61, 62, 63, 64, 65, 66, 67, 68, 69, 70, 71, 72, 73, 74, 75, 76, 77, 78, 79, 80, 81, 82, 83, 84, 85, 86, 87, 88, 89, 90, 91, 92, 93, 94, 95, 96, 97, 98, 99, 100, 101, 102, 103, 104, 105, 106, 107, 108, 109, 110, 111, 112, 113, 114, 115, 116, 117, 118, 119, 120, 121, 122, 123, 124, 125, 126, 127, 128, 129, 130, 131, 132, 133, 134, 135, 189, 190, 191, 192, 193, 194, 195, 196, 197, 198, 199] rfl (by decide +kernel)
set_option maxRecDepth 20000 in
theorem gX4_holding_X4_chainsOf : GoodIn wsX4_holding (wsV RX4 125 RX4 yX4_chainsOf wsX4_chainsOf) := goodIn_app (goodIn_of _ (by decide +kernel)) ggX4_holding_X4_chainsOf
set_option maxRecDepth 100000 in
set_option maxHeartbeats 4000000 in
theorem ggX4_holding_Jx4a65c_iterator_32c93 : GoodIn wsX4_holding wsJx4a65c_iterator_32c93 := goodIn_r _ [139, 140, 141, 142, 143, 144, 145, 146, 147, 125, 126, 148, 149, 30, 150, 200, 201, 202, 203, 197, 198, 199] rfl (by decide +kernel)
set_option maxRecDepth 20000 in
theorem gX4_holding_Jx4a65c_iterator_32c93 : GoodIn wsX4_holding (wsV RX4 89 RJx4a65c yJx4a65c_iterator_32c93 wsJx4a65c_iterator_32c93) := goodIn_app (goodIn_of _ (by decide +kernel)) ggX4_holding_Jx4a65c_iterator_32c93
set_option maxRecDepth 100000 in
set_option maxHeartbeats 4000000 in
theorem ggX4_holding_Jx35411_hasNext_aae02 : GoodIn wsX4_holding wsJx35411_hasNext_aae02 := goodIn_r _ [154, 155, 146, 200, 201, 202, 203, 197, 198, 199] rfl (by decide +kernel)
set_option maxRecDepth 20000 in
theorem gX4_holding_Jx35411_hasNext_aae02_f93Jx35411 : GoodIn wsX4_holding (va_wsF RX4 93 RJx35411 ⟨"java/util/Iterator", "hasNext", "()Z"⟩ yJx35411_hasNext_aae02 wsJx35411_hasNext_aae02) := goodIn_app (goodIn_of _ (by decide +kernel)) ggX4_holding_Jx35411_hasNext_aae02
set_option maxRecDepth 100000 in
set_option maxHeartbeats 4000000 in
theorem ggX4_holding_Jx35411_next_0502b : GoodIn wsX4_holding wsJx35411_next_0502b := goodIn_r _ [159, 155, 146, 160, 148, 161, 162, 163, 142, 164, 149, 30, 150, 200, 201, 202, 203, 197, 198, 199] rfl (by decide +kernel)
set_option maxRecDepth 20000 in
theorem gX4_holding_Jx35411_next_0502b_f99Jx35411 : GoodIn wsX4_holding (va_wsF RX4 99 RJx35411 ⟨"java/util/Iterator", "next", "()Ljava/lang/Object;"⟩ yJx35411_next_0502b wsJx35411_next_0502b) := goodIn_app (goodIn_of _ (by decide +kernel)) ggX4_holding_Jx35411_next_0502b
set_option maxRecDepth 100000 in
set_option maxHeartbeats 4000000 in
theorem ggX4_holding_X4_flawed : GoodIn wsX4_holding wsX4_flawed := goodIn_r _ [168, 169, 170, 171, 5, 172, 18, 1, 36, 37, 38, 11, 39, 24, 40, 41, 42, 43, 44, 45, 46, 47, 48, 49, 50, 51, 31, 173, 174, 175, 176, 177, 178, 179, 180, 181, 182, 183, 184, 185, 136, 137, 138, 139, 140, 141, 142, 143, 144, 145, 146, 147, 125, 126, 148, 149, 30, 150, 151, 152, 153, 154, 155, 156, 157, 158, 159, 160, 161, 162, 163, 164, 186, 187, 188, 55, 56, 57, 58, 59, 60, 189, 190, 191, 192, 193, 194, 195, 196, 197, 198, 199, 200, 201, 202, 203] rfl (by decide +kernel)
set_option maxRecDepth 20000 in
theorem gX4_holding_X4_flawed : GoodIn wsX4_holding (wsV RX4 129 RX4 yX4_flawed wsX4_flawed) := goodIn_app (goodIn_of _ (by decide +kernel)) ggX4_holding_X4_flawed
set_option maxRecDepth 100000 in
set_option maxHeartbeats 4000000 in
theorem ggX4_verdictNow_X4_holding : GoodIn wsX4_verdictNow wsX4_holding := goodIn_r _ [6, 1, 7, 8, 9, 5, 10, 11, 12, 13, 14, 15, 16, 17, 18, 19, 20, 21, 22, 23, 24, 25, 26, 27, 28, 29, 30, 31, 32, 33, 34, 35, 36, 37, 38, 39, 40, 41, 42, 43, 44, 45, 46, 47, 48, 49, 50, 51, 52, 53, 54, 55, 56, 57, 58, 59, 60, 61, 62, 63, 64, 65, 66, 67, 68, 69, 70, 71, 72, 73, 74, 75, 76, 77, 78, 79, 80, 81, 82, 83, 84, 85, 86, 87, 88, 89, 90, 91, 92, 93, 94, 95, 96, 97, 98, 99, 100, 101, 102, 103, 104, 105, 106, 107, 108, 109, 110, 111, 112, 113, 114, 115, 116, 117, 118, 119, 120, 121, 122, 123, 124, 125, 126, 127, 128, 129, 130, 131, 132, 133, 134, 135, 136, 137, 138, 139, 140, 141, 142, 143, 144, 145, 146, 147, 148, 149, 150, 151, 152, 153, 154, 155, 156, 157, 158, 159, 160, 161, 162, 163, 164, 165, 166, 167, 168, 169, 170, 171, 172, 173, 174, 175, 176, 177, 178, 179, 180, 181, 182, 183, 184, 185, 186, 187, 188, 189, 190, 191, 192, 197, 198, 199, 200, 201, 202, 203, 204, 205, 206, 207, 208, 209, 210, 211] rfl (by decide +kernel)
set_option maxRecDepth 20000 in
theorem gX4_verdictNow_X4_holding : GoodIn wsX4_verdictNow (wsV RX4 132 RX4 yX4_holding wsX4_holding) := goodIn_app (goodIn_of _ (by decide +kernel)) ggX4_verdictNow_X4_holding
set_option maxRecDepth 100000 in
set_option maxHeartbeats 4000000 in
theorem ggX4_verdictNow_X4_chainsOf : GoodIn wsX4_verdictNow wsX4_chainsOf := goodIn_r _ [10, 11, 12, 13, 14, 15, 16, 17, 18, 19, 5, 20, 21, 22, 23, 1, 24, 25, 26, 27, 28, 29, 30, 31, 32, 33, 34, 35, 36, 37, 38, 39, 40, 41, 42, 43, 44, 45, 46, 47, 48, 49, 50, 51, 52, 53, 54, 55, 56, 57, 58, 59, 60, 61, 62, 63, 64, 65, 66, 67, 68, 69, 70, 71, 72, 73, 74, 75, 76, 77, 78, 79, 80, 81, 82, 83, 84, 85, 86, 87, 88, 89, 90, 91, 92, 93, 94, 95, 96, 97, 98, 99, 100, 101, 102, 103, 104, 105, 106, 107, 108, 109, 110, 111, 112, 113, 114, 115, 116, 117, 118, 119, 120, 121, 122, 123, 124, 125, 126, 127, 128, 129, 130, 131, 132, 133, 134, 135, 136, 137, 138, 139, 197, 198, 199, 200, 201, 202, 203, 204, 205, 206, 207] rfl (by decide +kernel)
set_option maxRecDepth 20000 in
theorem gX4_verdictNow_X4_chainsOf : GoodIn wsX4_verdictNow (wsV RX4 125 RX4 yX4_chainsOf wsX4_chainsOf) := goodIn_app (goodIn_of _ (by decide +kernel)) ggX4_verdictNow_X4_chainsOf
set_option maxRecDepth 100000 in
set_option maxHeartbeats 4000000 in
theorem ggX4_verdictNow_Jx4a65c_isEmpty_aae02 : GoodIn wsX4_verdictNow wsJx4a65c_isEmpty_aae02 := goodIn_r _ [196, 28, 205, 206, 207] rfl (by decide +kernel)
set_option maxRecDepth 20000 in
theorem gX4_verdictNow_Jx4a65c_isEmpty_aae02 : GoodIn wsX4_verdictNow (wsV RX4 136 RJx4a65c yJx4a65c_isEmpty_aae02 wsJx4a65c_isEmpty_aae02) := goodIn_app (goodIn_of _ (by decide +kernel)) ggX4_verdictNow_Jx4a65c_isEmpty_aae02
set_option maxRecDepth 100000 in
set_option maxHeartbeats 4000000 in
theorem ggX4_verdictNow_Jx4a65c_get_915e3 : GoodIn wsX4_verdictNow wsJx4a65c_get_915e3 := goodIn_r _ [43, 28, 44, 45, 46, 47, 48, 49, 50, 51, 52, 53, 54, 15, 55, 35, 205, 206, 207] rfl (by decide +kernel)
set_option maxRecDepth 20000 in
theorem gX4_verdictNow_Jx4a65c_get_915e3 : GoodIn wsX4_verdictNow (wsV RX4 38 RJx4a65c yJx4a65c_get_915e3 wsJx4a65c_get_915e3) := goodIn_app (goodIn_of _ (by decide +kernel)) ggX4_verdictNow_Jx4a65c_get_915e3
set_option maxRecDepth 100000 in
set_option maxHeartbeats 4000000 in
theorem ggX4_verdictNow_X4_flawed : GoodIn wsX4_verdictNow wsX4_flawed := goodIn_r _ [172, 173, 174, 175, 5, 176, 22, 1, 40, 41, 42, 15, 43, 28, 44, 45, 46, 47, 48, 49, 50, 51, 52, 53, 54, 55, 35, 177, 178, 179, 180, 181, 182, 183, 184, 185, 186, 187, 188, 189, 140, 141, 142, 143, 144, 145, 146, 147, 148, 149, 150, 151, 129, 130, 152, 153, 34, 154, 155, 156, 157, 158, 159, 160, 161, 162, 163, 164, 165, 166, 167, 168, 190, 191, 192, 59, 60, 61, 62, 63, 64, 197, 198, 199, 200, 201, 202, 203, 204, 205, 206, 207, 208, 209, 210, 211] rfl (by decide +kernel)
set_option maxRecDepth 20000 in
theorem gX4_verdictNow_X4_flawed : GoodIn wsX4_verdictNow (wsV RX4 129 RX4 yX4_flawed wsX4_flawed) := goodIn_app (goodIn_of _ (by decide +kernel)) ggX4_verdictNow_X4_flawed
set_option maxRecDepth 100000 in
set_option maxHeartbeats 4000000 in
theorem ggX4_verdictNow_X4_flaw : GoodIn wsX4_verdictNow wsX4_flaw := goodIn_r _ [176, 22, 1, 40, 41, 42, 15, 43, 28, 44, 45, 46, 47, 48, 49, 50, 51, 52, 53, 54, 55, 35, 177, 178, 179, 5, 180, 181, 182, 183, 184, 185, 186, 187, 188, 189, 140, 141, 142, 143, 144, 145, 146, 147, 148, 149, 150, 151, 129, 130, 152, 153, 34, 154, 155, 156, 157, 158, 159, 160, 161, 162, 163, 164, 165, 166, 167, 168, 190, 191, 192, 59, 60, 61, 62, 63, 64, 197, 198, 199, 200, 201, 202, 203, 204, 205, 206, 207, 208, 209, 210, 211] rfl (by decide +kernel)
set_option maxRecDepth 20000 in
theorem gX4_verdictNow_X4_flaw : GoodIn wsX4_verdictNow (wsV RX4 121 RX4 yX4_flaw wsX4_flaw) := goodIn_app (goodIn_of _ (by decide +kernel)) ggX4_verdictNow_X4_flaw
set_option maxRecDepth 100000 in
set_option maxHeartbeats 4000000 in
theorem ggX4_flawAtNow_X4_verdictNow : GoodIn wsX4_flawAtNow wsX4_verdictNow := goodIn_r _ [6, 1, 7, 8, 9, 5, 10, 11, 12, 13, 14, 15, 16, 17, 18, 19, 20, 21, 22, 23, 24, 25, 26, 27, 28, 29, 30, 31, 32, 33, 34, 35, 36, 37, 38, 39, 40, 41, 42, 43, 44, 45, 46, 47, 48, 49, 50, 51, 52, 53, 54, 55, 56, 57, 58, 59, 60, 61, 62, 63, 64, 65, 66, 67, 68, 69, 70, 71, 72, 73, 74, 75, 76, 77, 78, 79, 80, 81, 82, 83, 84, 85, 86, 87, 88, 89, 90, 91, 92, 93, 94, 95, 96, 97, 98, 99, 100, 101, 102, 103, 104, 105, 106, 107, 108, 109, 110, 111, 112, 113, 114, 115, 116, 117, 118, 119, 120, 121, 122, 123, 124, 125, 126, 127, 128, 129, 130, 131, 132, 133, 134, 135, 136, 137, 138, 139, 140, 141, 142, 143, 144, 145, 146, 147, 148, 149, 150, 151, 152, 153, 154, 155, 156, 157, 158, 159, 160, 161, 162, 163, 164, 165, 166, 167, 168, 169, 170, 171, 172, 173, 174, 175, 176, 177, 178, 179, 180, 181, 182, 183, 184, 185, 186, 187, 188, 189, 190, 191, 192, 193, 194, 195, 196, 197, 198, 199, 200, 201, 202, 203, 204, 205, 206, 207, 208, 209, 210, 211, 212, 213, 214, 215] rfl (by decide +kernel)
set_option maxRecDepth 20000 in
theorem gX4_flawAtNow_X4_verdictNow : GoodIn wsX4_flawAtNow (wsV RX4 139 RX4 yX4_verdictNow wsX4_verdictNow) := goodIn_app (goodIn_of _ (by decide +kernel)) ggX4_flawAtNow_X4_verdictNow
set_option maxRecDepth 100000 in
set_option maxHeartbeats 4000000 in
theorem ggX4_flawAtNow_X4_chainsOf : GoodIn wsX4_flawAtNow wsX4_chainsOf := goodIn_r _ [14, 15, 16, 17, 18, 19, 20, 21, 22, 23, 5, 24, 25, 26, 27, 1, 28, 29, 30, 31, 32, 33, 34, 35, 36, 37, 38, 39, 40, 41, 42, 43, 44, 45, 46, 47, 48, 49, 50, 51, 52, 53, 54, 55, 56, 57, 58, 59, 60, 61, 62, 63, 64, 65, 66, 67, 68, 69, 70, 71, 72, 73, 74, 75, 76, 77, 78, 79, 80, 81, 82, 83, 84, 85, 86, 87, 88, 89, 90, 91, 92, 93, 94, 95, 96, 97, 98, 99, 100, 101, 102, 103, 104, 105, 106, 107, 108, 109, 110, 111, 112, 113, 114, 115, 116, 117, 118, 119, 120, 121, 122, 123, 124, 125, 126, 127, 128, 129, 130, 131, 132, 133, 134, 135, 136, 137, 138, 139, 140, 141, 142, 143, 201, 202, 203, 204, 205, 206, 207, 208, 209, 210, 211] rfl (by decide +kernel)
set_option maxRecDepth 20000 in
theorem gX4_flawAtNow_X4_chainsOf : GoodIn wsX4_flawAtNow (wsV RX4 125 RX4 yX4_chainsOf wsX4_chainsOf) := goodIn_app (goodIn_of _ (by decide +kernel)) ggX4_flawAtNow_X4_chainsOf
set_option maxRecDepth 100000 in
set_option maxHeartbeats 4000000 in
theorem ggX4_flawAtNow_Jx4a65c_get_915e3 : GoodIn wsX4_flawAtNow wsJx4a65c_get_915e3 := goodIn_r _ [47, 32, 48, 49, 50, 51, 52, 53, 54, 55, 56, 57, 58, 19, 59, 39, 209, 210, 211] rfl (by decide +kernel)
set_option maxRecDepth 20000 in
theorem gX4_flawAtNow_Jx4a65c_get_915e3 : GoodIn wsX4_flawAtNow (wsV RX4 38 RJx4a65c yJx4a65c_get_915e3 wsJx4a65c_get_915e3) := goodIn_app (goodIn_of _ (by decide +kernel)) ggX4_flawAtNow_Jx4a65c_get_915e3
set_option maxRecDepth 100000 in
set_option maxHeartbeats 4000000 in
theorem ggX4_flawAtNow_X4_flawed : GoodIn wsX4_flawAtNow wsX4_flawed := goodIn_r _ [176, 177, 178, 179, 5, 180, 26, 1, 44, 45, 46, 19, 47, 32, 48, 49, 50, 51, 52, 53, 54, 55, 56, 57, 58, 59, 39, 181, 182, 183, 184, 185, 186, 187, 188, 189, 190, 191, 192, 193, 144, 145, 146, 147, 148, 149, 150, 151, 152, 153, 154, 155, 133, 134, 156, 157, 38, 158, 159, 160, 161, 162, 163, 164, 165, 166, 167, 168, 169, 170, 171, 172, 194, 195, 196, 63, 64, 65, 66, 67, 68, 201, 202, 203, 204, 205, 206, 207, 208, 209, 210, 211, 212, 213, 214, 215] rfl (by decide +kernel)
set_option maxRecDepth 20000 in
theorem gX4_flawAtNow_X4_flawed : GoodIn wsX4_flawAtNow (wsV RX4 129 RX4 yX4_flawed wsX4_flawed) := goodIn_app (goodIn_of _ (by decide +kernel)) ggX4_flawAtNow_X4_flawed
set_option maxRecDepth 100000 in
set_option maxHeartbeats 4000000 in
theorem ggX4_isLetter_Jx4a65c_size_8abf5 : GoodIn wsX4_isLetter wsJx4a65c_size_8abf5 := goodIn_r _ [6, 7, 20, 21, 22] rfl (by decide +kernel)
set_option maxRecDepth 20000 in
theorem gX4_isLetter_Jx4a65c_size_8abf5 : GoodIn wsX4_isLetter (wsV RX4 54 RJx4a65c yJx4a65c_size_8abf5 wsJx4a65c_size_8abf5) := goodIn_app (goodIn_of _ (by decide +kernel)) ggX4_isLetter_Jx4a65c_size_8abf5
set_option maxRecDepth 100000 in
set_option maxHeartbeats 4000000 in
theorem ggX4_isLetter_X4_is : GoodIn wsX4_isLetter wsX4_is := goodIn_r _ [11] rfl (by decide +kernel)
set_option maxRecDepth 20000 in
theorem gX4_isLetter_X4_is : GoodIn wsX4_isLetter (va_wsS RX4 26 yX4_is wsX4_is) := goodIn_app (goodIn_of _ (by decide +kernel)) ggX4_isLetter_X4_is
set_option maxRecDepth 100000 in
set_option maxHeartbeats 4000000 in
theorem ggX4_isList_Jx4a65c_size_8abf5 : GoodIn wsX4_isList wsJx4a65c_size_8abf5 := goodIn_r _ [6, 7, 20, 21, 22] rfl (by decide +kernel)
set_option maxRecDepth 20000 in
theorem gX4_isList_Jx4a65c_size_8abf5 : GoodIn wsX4_isList (wsV RX4 54 RJx4a65c yJx4a65c_size_8abf5 wsJx4a65c_size_8abf5) := goodIn_app (goodIn_of _ (by decide +kernel)) ggX4_isList_Jx4a65c_size_8abf5
set_option maxRecDepth 100000 in
set_option maxHeartbeats 4000000 in
theorem ggX4_isList_X4_is : GoodIn wsX4_isList wsX4_is := goodIn_r _ [11] rfl (by decide +kernel)
set_option maxRecDepth 20000 in
theorem gX4_isList_X4_is : GoodIn wsX4_isList (va_wsS RX4 26 yX4_is wsX4_is) := goodIn_app (goodIn_of _ (by decide +kernel)) ggX4_isList_X4_is
set_option maxRecDepth 100000 in
set_option maxHeartbeats 4000000 in
theorem ggX4_isKey_X4_is : GoodIn wsX4_isKey wsX4_is := goodIn_r _ [4] rfl (by decide +kernel)
set_option maxRecDepth 20000 in
theorem gX4_isKey_X4_is : GoodIn wsX4_isKey (va_wsS RX4 26 yX4_is wsX4_is) := goodIn_app (goodIn_of _ (by decide +kernel)) ggX4_isKey_X4_is
set_option maxRecDepth 100000 in
set_option maxHeartbeats 4000000 in
theorem ggX4_isTime_X4_is : GoodIn wsX4_isTime wsX4_is := goodIn_r _ [4] rfl (by decide +kernel)
set_option maxRecDepth 20000 in
theorem gX4_isTime_X4_is : GoodIn wsX4_isTime (va_wsS RX4 26 yX4_is wsX4_is) := goodIn_app (goodIn_of _ (by decide +kernel)) ggX4_isTime_X4_is
set_option maxRecDepth 100000 in
set_option maxHeartbeats 4000000 in
theorem ggX4_isAt_X4_isTime : GoodIn wsX4_isAt wsX4_isTime := goodIn_r _ [4, 5, 6, 3, 7] rfl (by decide +kernel)
set_option maxRecDepth 20000 in
theorem gX4_isAt_X4_isTime : GoodIn wsX4_isAt (va_wsS RX4 143 yX4_isTime wsX4_isTime) := goodIn_app (goodIn_of _ (by decide +kernel)) ggX4_isAt_X4_isTime
set_option maxRecDepth 100000 in
set_option maxHeartbeats 4000000 in
theorem ggX4_isAt_X4_is : GoodIn wsX4_isAt wsX4_is := goodIn_r _ [7] rfl (by decide +kernel)
set_option maxRecDepth 20000 in
theorem gX4_isAt_X4_is : GoodIn wsX4_isAt (va_wsS RX4 26 yX4_is wsX4_is) := goodIn_app (goodIn_of _ (by decide +kernel)) ggX4_isAt_X4_is
set_option maxRecDepth 100000 in
set_option maxHeartbeats 4000000 in
theorem ggX4_isNumber_X4_is : GoodIn wsX4_isNumber wsX4_is := goodIn_r _ [4] rfl (by decide +kernel)
