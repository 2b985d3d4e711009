/-! names, printed: 8 -/
set_option maxRecDepth 20000 in
theorem gX4_verdict_X4_isLetter : GoodIn wsX4_verdict (wsV RX4 156 RX4 yX4_isLetter wsX4_isLetter) := goodIn_app (goodIn_of _ (by decide +kernel)) ggX4_verdict_X4_isLetter
set_option maxRecDepth 100000 in
set_option maxHeartbeats 4000000 in
theorem ggX4_verdict_X4_refuse : GoodIn wsX4_verdict wsX4_refuse := goodIn_r _ [20, 1, 219, 220, 221, 222, 223, 224, 225, 226] rfl (by decide +kernel)
set_option maxRecDepth 20000 in
theorem gX4_verdict_X4_refuse : GoodIn wsX4_verdict (wsV RX4 149 RX4 yX4_refuse wsX4_refuse) := goodIn_app (goodIn_of _ (by decide +kernel)) ggX4_verdict_X4_refuse
set_option maxRecDepth 100000 in
set_option maxHeartbeats 4000000 in
theorem ggX4_verdict_X4_isAt : GoodIn wsX4_verdict wsX4_isAt := goodIn_r _ [23, 24, 25, 5, 26, 14, 15, 16] rfl (by decide +kernel)
set_option maxRecDepth 20000 in
theorem gX4_verdict_X4_isAt : GoodIn wsX4_verdict (va_wsS RX4 190 yX4_isAt wsX4_isAt) := goodIn_app (goodIn_of _ (by decide +kernel)) ggX4_verdict_X4_isAt
set_option maxRecDepth 100000 in
set_option maxHeartbeats 4000000 in
theorem ggX4_verdict_X4_verdictNow : GoodIn wsX4_verdict wsX4_verdictNow := goodIn_r _ [30, 31, 32, 33, 34, 5, 35, 36, 37, 38, 39, 40, 41, 42, 43, 11, 44, 45, 46, 47, 48, 49, 7, 50, 8, 9, 10, 12, 13, 51, 52, 53, 54, 55, 56, 57, 58, 59, 60, 61, 62, 63, 64, 65, 66, 67, 68, 69, 70, 71, 72, 73, 74, 75, 76, 77, 78, 79, 80, 81, 82, 83, 84, 85, 86, 87, 88, 89, 90, 91, 92, 93, 94, 95, 96, 97, 98, 99, 100, 101, 102, 103, 104, 105, 106, 107, 108, 109, 110, 111, 112, 113, 114, 115, 116, 117, 118, 119, 120, 121, 122, 123, 124, 125, 126, 127, 128, 129, 130, 131, 132, 133, 134, 135, 136, 137, 138, 139, 140, 141, 142, 143, 144, 145, 146, 147, 148, 149, 150, 151, 152, 153, 154, 155, 156, 157, 158, 159, 160, 161, 162, 163, 164, 165, 166, 167, 168, 169, 170, 171, 172, 173, 174, 175, 176, 177, 178, 179, 180, 181, 182, 183, 184, 185, 186, 187, 188, 189, 190, 191, 192, 193, 194, 195, 196, 197, 198, 199, 200, 201, 202, 203, 204, 205, 206, 207, 208, 209, 210, 211, 212, 213, 214, 215, 216, 217, 218, 219, 220, 221, 222, 223, 224, 225, 226, 227, 228, 229, 230, 231, 232, 233] rfl (by decide +kernel)
set_option maxRecDepth 20000 in
theorem gX4_verdict_X4_verdictNow : GoodIn wsX4_verdict (wsV RX4 139 RX4 yX4_verdictNow wsX4_verdictNow) := goodIn_app (goodIn_of _ (by decide +kernel)) ggX4_verdict_X4_verdictNow
set_option maxRecDepth 100000 in
set_option maxHeartbeats 4000000 in
theorem ggX4_chain_X4_isLetter : GoodIn wsX4_chain wsX4_isLetter := goodIn_r _ [7, 8, 9, 10, 11, 12, 13, 14, 15, 16, 6, 17, 215, 216, 217, 218, 219, 220, 221, 222, 223, 224, 225] rfl (by decide +kernel)
set_option maxRecDepth 20000 in
theorem gX4_chain_X4_isLetter : GoodIn wsX4_chain (wsV RX4 156 RX4 yX4_isLetter wsX4_isLetter) := goodIn_app (goodIn_of _ (by decide +kernel)) ggX4_chain_X4_isLetter
set_option maxRecDepth 100000 in
set_option maxHeartbeats 4000000 in
theorem ggX4_chain_X4_refuse : GoodIn wsX4_chain wsX4_refuse := goodIn_r _ [21, 1, 215, 216, 217, 218, 219, 220, 221, 222] rfl (by decide +kernel)
set_option maxRecDepth 20000 in
theorem gX4_chain_X4_refuse : GoodIn wsX4_chain (wsV RX4 149 RX4 yX4_refuse wsX4_refuse) := goodIn_app (goodIn_of _ (by decide +kernel)) ggX4_chain_X4_refuse
set_option maxRecDepth 100000 in
set_option maxHeartbeats 4000000 in
theorem ggX4_chain_X4_isAt : GoodIn wsX4_chain wsX4_isAt := goodIn_r _ [24, 25, 26, 6, 27, 15, 16, 17] rfl (by decide +kernel)
set_option maxRecDepth 20000 in
theorem gX4_chain_X4_isAt : GoodIn wsX4_chain (va_wsS RX4 190 yX4_isAt wsX4_isAt) := goodIn_app (goodIn_of _ (by decide +kernel)) ggX4_chain_X4_isAt
set_option maxRecDepth 100000 in
set_option maxHeartbeats 4000000 in
theorem ggX4_chain_X4_holding : GoodIn wsX4_chain wsX4_holding := goodIn_r _ [31, 2, 32, 33, 34, 6, 35, 36, 37, 38, 39, 12, 40, 41, 42, 43, 44, 45, 8, 46, 9, 10, 11, 13, 14, 47, 48, 49, 50, 51, 52, 53, 54, 55, 56, 57, 58, 59, 60, 61, 62, 63, 64, 65, 66, 67, 68, 69, 70, 71, 72, 73, 74, 75, 76, 77, 78, 79, 80, 81, 82, 83, 84, 85, 86, 87, 88, 89, 90, 91, 92, 93, 94, 95, 96, 97, 98, 99, 100, 101, 102, 103, 104, 105, 106, 107, 108, 109, 110, 111, 112, 113, 114, 115, 116, 117, 118, 119, 120, 121, 122, 123, 124, 125, 126, 127, 128, 129, 130, 131, 132, 133, 134, 135, 136, 137, 138, 139, 140, 141, 142, 143, 144, 145, 146, 147, 148, 149, 150, 151, 152, 153, 154, 155, 156, 157, 158, 159, 160, 161, 162, 163, 164, 165, 166, 167, 168, 169, 170, 171, 172, 173, 174, 175, 176, 177, 178, 179, 180, 181, 182, 183, 184, 185, 186, 187, 188, 189, 190, 191, 192, 193, 194, 195, 196, 197, 198, 199, 200, 201, 202, 203, 204, 205, 206, 207, 208, 209, 210, 215, 216, 217, 218, 219, 220, 221, 222, 223, 224, 225, 226, 227, 228, 229] rfl (by decide +kernel)
set_option maxRecDepth 20000 in
theorem gX4_chain_X4_holding : GoodIn wsX4_chain (wsV RX4 132 RX4 yX4_holding wsX4_holding) := goodIn_app (goodIn_of _ (by decide +kernel)) ggX4_chain_X4_holding
set_option maxRecDepth 100000 in
set_option maxHeartbeats 4000000 in
theorem ggX4_chain_X4_chainsOf : GoodIn wsX4_chain wsX4_chainsOf := goodIn_r _ [35, 36, 37, 38, 39, 12, 40, 41, 42, 43, 6, 44, 45, 8, 46, 2, 9, 10, 11, 13, 14, 47, 48, 49, 50, 51, 52, 53, 54, 55, 56, 57, 58, 59, 60, 61, 62, 63, 64, 65, 66, 67, 68, 69, 70, 71, 72, 73, 74, 75, 76, 77, 78, 79, 80, 81, 82, 83, 84, 85, 86, 87, 88, 89, 90, 91, 92, 93, 94, 95, 96, 97, 98, 99, 100, 101, 102, 103, 104, 105, 106, 107, 108, 109, 110, 111, 112, 113, 114, 115, 116, 117, 118, 119, 120, 121, 122, 123, 124, 125, 126, 127, 128, 129, 130, 131, 132, 133, 134, 135, 136, 137, 138, 139, 140, 141, 142, 143, 144, 145, 146, 147, 148, 149, 150, 151, 152, 153, 154, 155, 156, 157, 215, 216, 217, 218, 219, 220, 221, 222, 223, 224, 225] rfl (by decide +kernel)
set_option maxRecDepth 20000 in
theorem gX4_chain_X4_chainsOf : GoodIn wsX4_chain (wsV RX4 125 RX4 yX4_chainsOf wsX4_chainsOf) := goodIn_app (goodIn_of _ (by decide +kernel)) ggX4_chain_X4_chainsOf
set_option maxRecDepth 100000 in
set_option maxHeartbeats 4000000 in
theorem ggX4_chain_Jx4a65c_isEmpty_aae02 : GoodIn wsX4_chain wsJx4a65c_isEmpty_aae02 := goodIn_r _ [214, 14, 223, 224, 225] rfl (by decide +kernel)
set_option maxRecDepth 20000 in
theorem gX4_chain_Jx4a65c_isEmpty_aae02 : GoodIn wsX4_chain (wsV RX4 136 RJx4a65c yJx4a65c_isEmpty_aae02 wsJx4a65c_isEmpty_aae02) := goodIn_app (goodIn_of _ (by decide +kernel)) ggX4_chain_Jx4a65c_isEmpty_aae02
set_option maxRecDepth 100000 in
set_option maxHeartbeats 4000000 in
theorem ggX4_chain_Jx4a65c_get_915e3 : GoodIn wsX4_chain wsJx4a65c_get_915e3 := goodIn_r _ [61, 14, 62, 63, 64, 65, 66, 67, 68, 69, 70, 71, 72, 12, 73, 53, 223, 224, 225] rfl (by decide +kernel)
set_option maxRecDepth 20000 in
theorem gX4_chain_Jx4a65c_get_915e3 : GoodIn wsX4_chain (wsV RX4 38 RJx4a65c yJx4a65c_get_915e3 wsJx4a65c_get_915e3) := goodIn_app (goodIn_of _ (by decide +kernel)) ggX4_chain_Jx4a65c_get_915e3
set_option maxRecDepth 100000 in
set_option maxHeartbeats 4000000 in
theorem ggX4_chain_X4_is : GoodIn wsX4_chain wsX4_is := goodIn_r _ [17] rfl (by decide +kernel)
set_option maxRecDepth 20000 in
theorem gX4_chain_X4_is : GoodIn wsX4_chain (va_wsS RX4 26 yX4_is wsX4_is) := goodIn_app (goodIn_of _ (by decide +kernel)) ggX4_chain_X4_is
set_option maxRecDepth 100000 in
set_option maxHeartbeats 4000000 in
theorem ggX4_flawAt_X4_isLetter : GoodIn wsX4_flawAt wsX4_isLetter := goodIn_r _ [6, 7, 8, 9, 10, 11, 12, 13, 14, 15, 5, 16, 223, 224, 225, 226, 227, 228, 229, 230, 231, 232, 233] rfl (by decide +kernel)
set_option maxRecDepth 20000 in
theorem gX4_flawAt_X4_isLetter : GoodIn wsX4_flawAt (wsV RX4 156 RX4 yX4_isLetter wsX4_isLetter) := goodIn_app (goodIn_of _ (by decide +kernel)) ggX4_flawAt_X4_isLetter
set_option maxRecDepth 100000 in
set_option maxHeartbeats 4000000 in
theorem ggX4_flawAt_X4_refuse : GoodIn wsX4_flawAt wsX4_refuse := goodIn_r _ [20, 1, 223, 224, 225, 226, 227, 228, 229, 230] rfl (by decide +kernel)
set_option maxRecDepth 20000 in
theorem gX4_flawAt_X4_refuse : GoodIn wsX4_flawAt (wsV RX4 149 RX4 yX4_refuse wsX4_refuse) := goodIn_app (goodIn_of _ (by decide +kernel)) ggX4_flawAt_X4_refuse
set_option maxRecDepth 100000 in
set_option maxHeartbeats 4000000 in
theorem ggX4_flawAt_X4_isAt : GoodIn wsX4_flawAt wsX4_isAt := goodIn_r _ [23, 24, 25, 5, 26, 14, 15, 16] rfl (by decide +kernel)
set_option maxRecDepth 20000 in
theorem gX4_flawAt_X4_isAt : GoodIn wsX4_flawAt (va_wsS RX4 190 yX4_isAt wsX4_isAt) := goodIn_app (goodIn_of _ (by decide +kernel)) ggX4_flawAt_X4_isAt
set_option maxRecDepth 100000 in
set_option maxHeartbeats 4000000 in
theorem ggX4_flawAt_X4_flawAtNow : GoodIn wsX4_flawAt wsX4_flawAtNow := goodIn_r _ [30, 31, 32, 33, 34, 5, 35, 36, 37, 38, 39, 40, 41, 42, 43, 44, 45, 46, 47, 11, 48, 49, 50, 51, 52, 53, 7, 54, 8, 9, 10, 12, 13, 55, 56, 57, 58, 59, 60, 61, 62, 63, 64, 65, 66, 67, 68, 69, 70, 71, 72, 73, 74, 75, 76, 77, 78, 79, 80, 81, 82, 83, 84, 85, 86, 87, 88, 89, 90, 91, 92, 93, 94, 95, 96, 97, 98, 99, 100, 101, 102, 103, 104, 105, 106, 107, 108, 109, 110, 111, 112, 113, 114, 115, 116, 117, 118, 119, 120, 121, 122, 123, 124, 125, 126, 127, 128, 129, 130, 131, 132, 133, 134, 135, 136, 137, 138, 139, 140, 141, 142, 143, 144, 145, 146, 147, 148, 149, 150, 151, 152, 153, 154, 155, 156, 157, 158, 159, 160, 161, 162, 163, 164, 165, 166, 167, 168, 169, 170, 171, 172, 173, 174, 175, 176, 177, 178, 179, 180, 181, 182, 183, 184, 185, 186, 187, 188, 189, 190, 191, 192, 193, 194, 195, 196, 197, 198, 199, 200, 201, 202, 203, 204, 205, 206, 207, 208, 209, 210, 211, 212, 213, 214, 215, 216, 217, 218, 219, 220, 221, 222, 223, 224, 225, 226, 227, 228, 229, 230, 231, 232, 233, 234, 235, 236, 237] rfl (by decide +kernel)
set_option maxRecDepth 20000 in
theorem gX4_flawAt_X4_flawAtNow : GoodIn wsX4_flawAt (wsV RX4 193 RX4 yX4_flawAtNow wsX4_flawAtNow) := goodIn_app (goodIn_of _ (by decide +kernel)) ggX4_flawAt_X4_flawAtNow
set_option maxRecDepth 100000 in
set_option maxHeartbeats 4000000 in
theorem ggX4_isOf_X4_isName : GoodIn wsX4_isOf wsX4_isName := goodIn_r _ [7, 8, 9, 6, 10] rfl (by decide +kernel)
set_option maxRecDepth 20000 in
theorem gX4_isOf_X4_isName : GoodIn wsX4_isOf (va_wsS RX4 30 yX4_isName wsX4_isName) := goodIn_app (goodIn_of _ (by decide +kernel)) ggX4_isOf_X4_isName
set_option maxRecDepth 100000 in
set_option maxHeartbeats 4000000 in
theorem ggX4_isOf_X4_isKey : GoodIn wsX4_isOf wsX4_isKey := goodIn_r _ [13, 8, 9, 6, 10] rfl (by decide +kernel)
set_option maxRecDepth 20000 in
theorem gX4_isOf_X4_isKey : GoodIn wsX4_isOf (va_wsS RX4 146 yX4_isKey wsX4_isKey) := goodIn_app (goodIn_of _ (by decide +kernel)) ggX4_isOf_X4_isKey
set_option maxRecDepth 100000 in
set_option maxHeartbeats 4000000 in
theorem ggX4_isOf_X4_isAt : GoodIn wsX4_isOf wsX4_isAt := goodIn_r _ [16, 17, 18, 6, 19, 8, 9, 10] rfl (by decide +kernel)
set_option maxRecDepth 20000 in
theorem gX4_isOf_X4_isAt : GoodIn wsX4_isOf (va_wsS RX4 190 yX4_isAt wsX4_isAt) := goodIn_app (goodIn_of _ (by decide +kernel)) ggX4_isOf_X4_isAt
set_option maxRecDepth 100000 in
set_option maxHeartbeats 4000000 in
theorem ggX4_isOf_Jx4a65c_size_8abf5 : GoodIn wsX4_isOf wsJx4a65c_size_8abf5 := goodIn_r _ [24, 25, 225, 226, 227] rfl (by decide +kernel)
set_option maxRecDepth 20000 in
theorem gX4_isOf_Jx4a65c_size_8abf5 : GoodIn wsX4_isOf (wsV RX4 54 RJx4a65c yJx4a65c_size_8abf5 wsJx4a65c_size_8abf5) := goodIn_app (goodIn_of _ (by decide +kernel)) ggX4_isOf_Jx4a65c_size_8abf5
set_option maxRecDepth 100000 in
set_option maxHeartbeats 4000000 in
theorem ggX4_isOf_Jx4a65c_get_915e3 : GoodIn wsX4_isOf wsJx4a65c_get_915e3 := goodIn_r _ [29, 25, 30, 31, 32, 33, 34, 35, 36, 37, 38, 39, 40, 23, 41, 42, 225, 226, 227] rfl (by decide +kernel)
set_option maxRecDepth 20000 in
theorem gX4_isOf_Jx4a65c_get_915e3 : GoodIn wsX4_isOf (wsV RX4 38 RJx4a65c yJx4a65c_get_915e3 wsJx4a65c_get_915e3) := goodIn_app (goodIn_of _ (by decide +kernel)) ggX4_isOf_Jx4a65c_get_915e3
set_option maxRecDepth 100000 in
set_option maxHeartbeats 4000000 in
theorem ggX4_isOf_X4_verdictNow : GoodIn wsX4_isOf wsX4_verdictNow := goodIn_r _ [46, 3, 47, 48, 49, 6, 50, 51, 52, 53, 54, 55, 56, 57, 58, 23, 59, 60, 61, 62, 63, 64, 2, 65, 20, 21, 22, 24, 25, 66, 67, 68, 69, 70, 71, 42, 72, 73, 74, 75, 26, 27, 28, 29, 30, 31, 32, 33, 34, 35, 36, 37, 38, 39, 40, 41, 76, 77, 78, 79, 80, 81, 82, 83, 84, 85, 86, 87, 88, 89, 90, 91, 92, 93, 94, 95, 96, 97, 98, 99, 100, 101, 102, 103, 104, 105, 106, 107, 108, 109, 110, 111, 112, 113, 114, 115, 116, 117, 118, 119, 120, 121, 122, 123, 124, 125, 126, 127, 128, 129, 130, 131, 132, 133, 134, 135, 136, 137, 138, 139, 140, 141, 142, 143, 144, 145, 146, 147, 148, 149, 150, 151, 152, 153, 154, 155, 156, 157, 158, 159, 160, 161, 162, 163, 164, 165, 166, 167, 168, 169, 170, 171, 172, 173, 174, 175, 176, 177, 178, 179, 180, 181, 182, 183, 184, 185, 186, 187, 188, 189, 190, 191, 192, 193, 194, 195, 196, 197, 198, 199, 200, 201, 202, 203, 204, 205, 206, 207, 208, 209, 210, 211, 212, 213, 214, 215, 216, 217, 218, 219, 220, 221, 222, 223, 224, 225, 226, 227, 228, 229, 230, 231] rfl (by decide +kernel)
set_option maxRecDepth 20000 in
theorem gX4_isOf_X4_verdictNow : GoodIn wsX4_isOf (wsV RX4 139 RX4 yX4_verdictNow wsX4_verdictNow) := goodIn_app (goodIn_of _ (by decide +kernel)) ggX4_isOf_X4_verdictNow
set_option maxRecDepth 100000 in
set_option maxHeartbeats 4000000 in
theorem ggX4_meanChain_X4_isAt : GoodIn wsX4_meanChain wsX4_isAt := goodIn_r _ [6, 7, 8, 5, 9, 10, 11, 12] rfl (by decide +kernel)
set_option maxRecDepth 20000 in
theorem gX4_meanChain_X4_isAt : GoodIn wsX4_meanChain (va_wsS RX4 190 yX4_isAt wsX4_isAt) := goodIn_app (goodIn_of _ (by decide +kernel)) ggX4_meanChain_X4_isAt
set_option maxRecDepth 100000 in
set_option maxHeartbeats 4000000 in
theorem ggX4_meanChain_Jx4a65c_size_8abf5 : GoodIn wsX4_meanChain wsJx4a65c_size_8abf5 := goodIn_r _ [17, 18, 211, 212, 213] rfl (by decide +kernel)
set_option maxRecDepth 20000 in
theorem gX4_meanChain_Jx4a65c_size_8abf5 : GoodIn wsX4_meanChain (wsV RX4 54 RJx4a65c yJx4a65c_size_8abf5 wsJx4a65c_size_8abf5) := goodIn_app (goodIn_of _ (by decide +kernel)) ggX4_meanChain_Jx4a65c_size_8abf5
set_option maxRecDepth 100000 in
set_option maxHeartbeats 4000000 in
theorem ggX4_meanChain_X4_holding : GoodIn wsX4_meanChain wsX4_holding := goodIn_r _ [22, 23, 24, 25, 26, 5, 27, 28, 29, 30, 31, 16, 32, 33, 34, 35, 36, 37, 2, 38, 13, 14, 15, 17, 18, 39, 40, 41, 42, 43, 44, 45, 46, 47, 48, 49, 50, 51, 52, 53, 54, 55, 56, 57, 58, 59, 60, 61, 62, 63, 64, 65, 66, 67, 68, 69, 70, 71, 72, 73, 74, 75, 76, 77, 78, 79, 80, 81, 82, 83, 84, 85, 86, 87, 88, 89, 90, 91, 92, 93, 94, 95, 96, 97, 98, 99, 100, 101, 102, 103, 104, 105, 106, 107, 108, 109, 110, 111, 112, 113, 114, 115, 116, 117, 118, 119, 120, 121, 122, 123, 124, 125, 126, 127, 128, 129, 130, 131, 132, 133, 134, 135, 136, 137, 138, 139, 140, 141, 142, 143, 144, 145, 146, 147, 148, 149, 150, 151, 152, 153, 154, 155, 156, 157, 158, 159, 160, 161, 162, 163, 164, 165, 166, 167, 168, 169, 170, 171, 172, 173, 174, 175, 176, 177, 178, 179, 180, 181, 182, 183, 184, 185, 186, 187, 188, 189, 190, 191, 192, 193, 194, 195, 196, 197, 198, 199, 200, 201, 202, 203, 204, 205, 206, 207, 208, 209, 210, 211, 212, 213, 214, 215, 216, 217] rfl (by decide +kernel)
set_option maxRecDepth 20000 in
theorem gX4_meanChain_X4_holding : GoodIn wsX4_meanChain (wsV RX4 132 RX4 yX4_holding wsX4_holding) := goodIn_app (goodIn_of _ (by decide +kernel)) ggX4_meanChain_X4_holding
set_option maxRecDepth 100000 in
set_option maxHeartbeats 4000000 in
theorem ggX4_holdsTo_X4_isLetter : GoodIn wsX4_holdsTo wsX4_isLetter := goodIn_r _ [6, 7, 8, 9, 10, 11, 12, 13, 14, 15, 5, 16, 211, 212, 213, 214, 215, 216, 217, 218, 219, 220, 221] rfl (by decide +kernel)
set_option maxRecDepth 20000 in
theorem gX4_holdsTo_X4_isLetter : GoodIn wsX4_holdsTo (wsV RX4 156 RX4 yX4_isLetter wsX4_isLetter) := goodIn_app (goodIn_of _ (by decide +kernel)) ggX4_holdsTo_X4_isLetter
set_option maxRecDepth 100000 in
set_option maxHeartbeats 4000000 in
theorem ggX4_holdsTo_X4_refuse : GoodIn wsX4_holdsTo wsX4_refuse := goodIn_r _ [20, 1, 211, 212, 213, 214, 215, 216, 217, 218] rfl (by decide +kernel)
set_option maxRecDepth 20000 in
theorem gX4_holdsTo_X4_refuse : GoodIn wsX4_holdsTo (wsV RX4 149 RX4 yX4_refuse wsX4_refuse) := goodIn_app (goodIn_of _ (by decide +kernel)) ggX4_holdsTo_X4_refuse
set_option maxRecDepth 100000 in
set_option maxHeartbeats 4000000 in
theorem ggX4_holdsTo_X4_isAt : GoodIn wsX4_holdsTo wsX4_isAt := goodIn_r _ [23, 24, 25, 5, 26, 14, 15, 16] rfl (by decide +kernel)
set_option maxRecDepth 20000 in
theorem gX4_holdsTo_X4_isAt : GoodIn wsX4_holdsTo (va_wsS RX4 190 yX4_isAt wsX4_isAt) := goodIn_app (goodIn_of _ (by decide +kernel)) ggX4_holdsTo_X4_isAt
set_option maxRecDepth 100000 in
set_option maxHeartbeats 4000000 in
theorem ggX4_holdsTo_X4_holding : GoodIn wsX4_holdsTo wsX4_holding := goodIn_r _ [30, 31, 32, 33, 34, 5, 35, 36, 37, 38, 39, 11, 40, 41, 42, 43, 44, 45, 7, 46, 8, 9, 10, 12, 13, 47, 48, 49, 50, 51, 52, 53, 54, 55, 56, 57, 58, 59, 60, 61, 62, 63, 64, 65, 66, 67, 68, 69, 70, 71, 72, 73, 74, 75, 76, 77, 78, 79, 80, 81, 82, 83, 84, 85, 86, 87, 88, 89, 90, 91, 92, 93, 94, 95, 96, 97, 98, 99, 100, 101, 102, 103, 104, 105, 106, 107, 108, 109, 110, 111, 112, 113, 114, 115, 116, 117, 118, 119, 120, 121, 122, 123, 124, 125, 126, 127, 128, 129, 130, 131, 132, 133, 134, 135, 136, 137, 138, 139, 140, 141, 142, 143, 144, 145, 146, 147, 148, 149, 150, 151, 152, 153, 154, 155, 156, 157, 158, 159, 160, 161, 162, 163, 164, 165, 166, 167, 168, 169, 170, 171, 172, 173, 174, 175, 176, 177, 178, 179, 180, 181, 182, 183, 184, 185, 186, 187, 188, 189, 190, 191, 192, 193, 194, 195, 196, 197, 198, 199, 200, 201, 202, 203, 204, 205, 206, 207, 208, 209, 210, 211, 212, 213, 214, 215, 216, 217, 218, 219, 220, 221, 222, 223, 224, 225] rfl (by decide +kernel)
set_option maxRecDepth 20000 in
theorem gX4_holdsTo_X4_holding : GoodIn wsX4_holdsTo (wsV RX4 132 RX4 yX4_holding wsX4_holding) := goodIn_app (goodIn_of _ (by decide +kernel)) ggX4_holdsTo_X4_holding
set_option maxRecDepth 100000 in
set_option maxHeartbeats 4000000 in
theorem ggX4_verdicts_Jx4a65c_size_8abf5 : GoodIn wsX4_verdicts wsJx4a65c_size_8abf5 := goodIn_r _ [7, 8, 209, 210, 211] rfl (by decide +kernel)
set_option maxRecDepth 20000 in
theorem gX4_verdicts_Jx4a65c_size_8abf5 : GoodIn wsX4_verdicts (wsV RX4 54 RJx4a65c yJx4a65c_size_8abf5 wsJx4a65c_size_8abf5) := goodIn_app (goodIn_of _ (by decide +kernel)) ggX4_verdicts_Jx4a65c_size_8abf5
set_option maxRecDepth 100000 in
set_option maxHeartbeats 4000000 in
theorem ggX4_verdicts_X4_verdictNow : GoodIn wsX4_verdicts wsX4_verdictNow := goodIn_r _ [13, 14, 15, 16, 17, 12, 18, 19, 20, 21, 22, 23, 24, 25, 26, 6, 2, 27, 28, 29, 30, 31, 1, 32, 3, 4, 5, 7, 8, 33, 34, 35, 36, 37, 38, 39, 40, 41, 42, 43, 44, 45, 46, 47, 48, 49, 50, 51, 52, 53, 54, 55, 56, 57, 58, 59, 60, 61, 62, 63, 64, 65, 66, 67, 68, 69, 70, 71, 72, 73, 74, 75, 76, 77, 78, 79, 80, 81, 82, 83, 84, 85, 86, 87, 88, 89, 90, 91, 92, 93, 94, 95, 96, 97, 98, 99, 100, 101, 102, 103, 104, 105, 106, 107, 108, 109, 110, 111, 112, 113, 114, 115, 116, 117, 118, 119, 120, 121, 122, 123, 124, 125, 126, 127, 128, 129, 130, 131, 132, 133, 134, 135, 136, 137, 138, 139, 140, 141, 142, 143, 144, 145, 146, 147, 148, 149, 150, 151, 152, 153, 154, 155, 156, 157, 158, 159, 160, 161, 162, 163, 164, 165, 166, 167, 168, 169, 170, 171, 172, 173, 174, 175, 176, 177, 178, 179, 180, 181, 182, 183, 184, 185, 186, 187, 188, 189, 190, 191, 192, 193, 194, 195, 196, 197, 198, 199, 200, 201, 202, 203, 204, 205, 206, 207, 208, 209, 210, 211, 212, 213, 214, 215] rfl (by decide +kernel)
