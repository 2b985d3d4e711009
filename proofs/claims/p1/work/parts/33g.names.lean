/-! names, printed: 6 -/
set_option maxRecDepth 20000 in
theorem gX4_sign_X4_forget : GoodIn wsX4_sign (wsV RX4 153 RX4 yX4_forget wsX4_forget) := goodIn_app (goodIn_of _ (by decide +kernel)) ggX4_sign_X4_forget
set_option maxRecDepth 100000 in
set_option maxHeartbeats 4000000 in
theorem ggX4_anchors_Jx4a65c_iterator_32c93 : GoodIn wsX4_anchors wsJx4a65c_iterator_32c93 := goodIn_r _ [7, 8, 9, 10, 11, 12, 13, 14, 15, 16, 17, 18, 19, 20, 21, 44, 45, 46, 47, 48, 49, 50] rfl (by decide +kernel)
set_option maxRecDepth 20000 in
theorem gX4_anchors_Jx4a65c_iterator_32c93 : GoodIn wsX4_anchors (wsV RX4 89 RJx4a65c yJx4a65c_iterator_32c93 wsJx4a65c_iterator_32c93) := goodIn_app (goodIn_of _ (by decide +kernel)) ggX4_anchors_Jx4a65c_iterator_32c93
set_option maxRecDepth 100000 in
set_option maxHeartbeats 4000000 in
theorem ggX4_anchors_Jx35411_hasNext_aae02 : GoodIn wsX4_anchors wsJx35411_hasNext_aae02 := goodIn_r _ [25, 26, 14, 44, 45, 46, 47, 48, 49, 50] rfl (by decide +kernel)
set_option maxRecDepth 20000 in
theorem gX4_anchors_Jx35411_hasNext_aae02_f93Jx35411 : GoodIn wsX4_anchors (va_wsF RX4 93 RJx35411 ⟨"java/util/Iterator", "hasNext", "()Z"⟩ yJx35411_hasNext_aae02 wsJx35411_hasNext_aae02) := goodIn_app (goodIn_of _ (by decide +kernel)) ggX4_anchors_Jx35411_hasNext_aae02
set_option maxRecDepth 100000 in
set_option maxHeartbeats 4000000 in
theorem ggX4_anchors_Jx35411_next_0502b : GoodIn wsX4_anchors wsJx35411_next_0502b := goodIn_r _ [30, 26, 14, 31, 18, 32, 33, 34, 10, 35, 19, 20, 21, 44, 45, 46, 47, 48, 49, 50] rfl (by decide +kernel)
set_option maxRecDepth 20000 in
theorem gX4_anchors_Jx35411_next_0502b_f99Jx35411 : GoodIn wsX4_anchors (va_wsF RX4 99 RJx35411 ⟨"java/util/Iterator", "next", "()Ljava/lang/Object;"⟩ yJx35411_next_0502b wsJx35411_next_0502b) := goodIn_app (goodIn_of _ (by decide +kernel)) ggX4_anchors_Jx35411_next_0502b
set_option maxRecDepth 100000 in
set_option maxHeartbeats 4000000 in
theorem ggX4_anchor_X4_isLetter : GoodIn wsX4_anchor wsX4_isLetter := goodIn_r _ [8, 2, 9, 10, 11, 12, 13, 14, 15, 16, 7, 17, 80, 81, 82, 83, 84, 85, 86, 87, 88, 89, 90] rfl (by decide +kernel)
set_option maxRecDepth 20000 in
theorem gX4_anchor_X4_isLetter : GoodIn wsX4_anchor (wsV RX4 156 RX4 yX4_isLetter wsX4_isLetter) := goodIn_app (goodIn_of _ (by decide +kernel)) ggX4_anchor_X4_isLetter
set_option maxRecDepth 100000 in
set_option maxHeartbeats 4000000 in
theorem ggX4_anchor_X4_refuse : GoodIn wsX4_anchor wsX4_refuse := goodIn_r _ [21, 1, 80, 81, 82, 83, 84, 85, 86, 87] rfl (by decide +kernel)
set_option maxRecDepth 20000 in
theorem gX4_anchor_X4_refuse : GoodIn wsX4_anchor (wsV RX4 149 RX4 yX4_refuse wsX4_refuse) := goodIn_app (goodIn_of _ (by decide +kernel)) ggX4_anchor_X4_refuse
set_option maxRecDepth 100000 in
set_option maxHeartbeats 4000000 in
theorem ggX4_anchor_Jx4a65c_get_915e3 : GoodIn wsX4_anchor wsJx4a65c_get_915e3 := goodIn_r _ [25, 14, 26, 27, 28, 29, 30, 31, 32, 33, 34, 35, 36, 12, 37, 38, 88, 89, 90] rfl (by decide +kernel)
set_option maxRecDepth 20000 in
theorem gX4_anchor_Jx4a65c_get_915e3 : GoodIn wsX4_anchor (wsV RX4 38 RJx4a65c yJx4a65c_get_915e3 wsJx4a65c_get_915e3) := goodIn_app (goodIn_of _ (by decide +kernel)) ggX4_anchor_Jx4a65c_get_915e3
set_option maxRecDepth 100000 in
set_option maxHeartbeats 4000000 in
theorem ggX4_anchor_X4_forget : GoodIn wsX4_anchor wsX4_forget := goodIn_r _ [42, 43, 80, 81, 82, 83, 84, 85, 86, 87] rfl (by decide +kernel)
set_option maxRecDepth 20000 in
theorem gX4_anchor_X4_forget : GoodIn wsX4_anchor (wsV RX4 153 RX4 yX4_forget wsX4_forget) := goodIn_app (goodIn_of _ (by decide +kernel)) ggX4_anchor_X4_forget
set_option maxRecDepth 100000 in
set_option maxHeartbeats 4000000 in
theorem ggX4_anchor_X4_anchors : GoodIn wsX4_anchor wsX4_anchors := goodIn_r _ [47, 2, 3, 48, 49, 50, 12, 51, 52, 53, 54, 55, 56, 57, 58, 59, 60, 61, 62, 63, 64, 65, 66, 67, 68, 69, 70, 71, 72, 73, 74, 75, 76, 77, 78, 79, 80, 81, 82, 83, 84, 85, 86, 87, 91, 92, 93, 94, 88, 89, 90] rfl (by decide +kernel)
set_option maxRecDepth 20000 in
theorem gX4_anchor_X4_anchors : GoodIn wsX4_anchor (wsV RX4 166 RX4 yX4_anchors wsX4_anchors) := goodIn_app (goodIn_of _ (by decide +kernel)) ggX4_anchor_X4_anchors
set_option maxRecDepth 100000 in
set_option maxHeartbeats 4000000 in
theorem ggX4_list_X4_isName : GoodIn wsX4_list wsX4_isName := goodIn_r _ [7, 8, 9, 6, 10] rfl (by decide +kernel)
set_option maxRecDepth 20000 in
theorem gX4_list_X4_isName : GoodIn wsX4_list (va_wsS RX4 30 yX4_isName wsX4_isName) := goodIn_app (goodIn_of _ (by decide +kernel)) ggX4_list_X4_isName
set_option maxRecDepth 100000 in
set_option maxHeartbeats 4000000 in
theorem ggX4_list_X4_isTime : GoodIn wsX4_list wsX4_isTime := goodIn_r _ [13, 8, 9, 6, 10] rfl (by decide +kernel)
set_option maxRecDepth 20000 in
theorem gX4_list_X4_isTime : GoodIn wsX4_list (va_wsS RX4 143 yX4_isTime wsX4_isTime) := goodIn_app (goodIn_of _ (by decide +kernel)) ggX4_list_X4_isTime
set_option maxRecDepth 100000 in
set_option maxHeartbeats 4000000 in
theorem ggX4_list_X4_refuse : GoodIn wsX4_list wsX4_refuse := goodIn_r _ [17, 1, 78, 79, 80, 81, 82, 83, 84, 85] rfl (by decide +kernel)
set_option maxRecDepth 20000 in
theorem gX4_list_X4_refuse : GoodIn wsX4_list (wsV RX4 149 RX4 yX4_refuse wsX4_refuse) := goodIn_app (goodIn_of _ (by decide +kernel)) ggX4_list_X4_refuse
set_option maxRecDepth 100000 in
set_option maxHeartbeats 4000000 in
theorem ggX4_list_Jx4a65c_size_8abf5 : GoodIn wsX4_list wsJx4a65c_size_8abf5 := goodIn_r _ [22, 23, 86, 87, 88] rfl (by decide +kernel)
set_option maxRecDepth 20000 in
theorem gX4_list_Jx4a65c_size_8abf5 : GoodIn wsX4_list (wsV RX4 54 RJx4a65c yJx4a65c_size_8abf5 wsJx4a65c_size_8abf5) := goodIn_app (goodIn_of _ (by decide +kernel)) ggX4_list_Jx4a65c_size_8abf5
set_option maxRecDepth 100000 in
set_option maxHeartbeats 4000000 in
theorem ggX4_list_Jx4a65c_add_9ea2d : GoodIn wsX4_list wsJx4a65c_add_9ea2d := goodIn_r _ [27, 28, 29, 30, 23, 31, 32, 33, 21, 34, 35, 36, 37, 38, 39, 40, 41, 42, 43, 44, 45, 46, 47, 48, 49, 50, 51, 52, 53, 54, 55, 56, 57, 58, 59, 60, 61, 62, 63, 64, 65, 66, 67, 68, 69, 70, 71, 72, 73, 74, 75, 76, 77, 86, 87, 88] rfl (by decide +kernel)
set_option maxRecDepth 20000 in
theorem gX4_list_Jx4a65c_add_9ea2d : GoodIn wsX4_list (wsV RX4 68 RJx4a65c yJx4a65c_add_9ea2d wsJx4a65c_add_9ea2d) := goodIn_app (goodIn_of _ (by decide +kernel)) ggX4_list_Jx4a65c_add_9ea2d
set_option maxRecDepth 100000 in
set_option maxHeartbeats 4000000 in
theorem ggX4_call_X4_isList : GoodIn wsX4_call wsX4_isList := goodIn_r _ [8, 2, 9, 10, 11, 12, 13, 14, 15, 16, 7, 17, 46, 47, 48, 49, 50, 51, 52, 53, 54, 55, 56] rfl (by decide +kernel)
set_option maxRecDepth 20000 in
theorem gX4_call_X4_isList : GoodIn wsX4_call (wsV RX4 169 RX4 yX4_isList wsX4_isList) := goodIn_app (goodIn_of _ (by decide +kernel)) ggX4_call_X4_isList
set_option maxRecDepth 100000 in
set_option maxHeartbeats 4000000 in
theorem ggX4_call_X4_refuse : GoodIn wsX4_call wsX4_refuse := goodIn_r _ [21, 1, 46, 47, 48, 49, 50, 51, 52, 53] rfl (by decide +kernel)
set_option maxRecDepth 20000 in
theorem gX4_call_X4_refuse : GoodIn wsX4_call (wsV RX4 149 RX4 yX4_refuse wsX4_refuse) := goodIn_app (goodIn_of _ (by decide +kernel)) ggX4_call_X4_refuse
set_option maxRecDepth 100000 in
set_option maxHeartbeats 4000000 in
theorem ggX4_call_X4_is : GoodIn wsX4_call wsX4_is := goodIn_r _ [17] rfl (by decide +kernel)
set_option maxRecDepth 20000 in
theorem gX4_call_X4_is : GoodIn wsX4_call (va_wsS RX4 26 yX4_is wsX4_is) := goodIn_app (goodIn_of _ (by decide +kernel)) ggX4_call_X4_is
set_option maxRecDepth 100000 in
set_option maxHeartbeats 4000000 in
theorem ggX4_call_Jx4a65c_get_915e3 : GoodIn wsX4_call wsJx4a65c_get_915e3 := goodIn_r _ [25, 14, 26, 27, 28, 29, 30, 31, 32, 33, 34, 35, 36, 12, 37, 38, 54, 55, 56] rfl (by decide +kernel)
set_option maxRecDepth 20000 in
theorem gX4_call_Jx4a65c_get_915e3 : GoodIn wsX4_call (wsV RX4 38 RJx4a65c yJx4a65c_get_915e3 wsJx4a65c_get_915e3) := goodIn_app (goodIn_of _ (by decide +kernel)) ggX4_call_Jx4a65c_get_915e3
set_option maxRecDepth 100000 in
set_option maxHeartbeats 4000000 in
theorem ggX4_call_J6_bitCount_0f7a4 : GoodIn wsX4_call wsJ6_bitCount_0f7a4 := goodIn_r _ [42, 43, 44, 45] rfl (by decide +kernel)
set_option maxRecDepth 20000 in
theorem gX4_call_J6_bitCount_0f7a4 : GoodIn wsX4_call (va_wsS RX4 172 yJ6_bitCount_0f7a4 wsJ6_bitCount_0f7a4) := goodIn_app (goodIn_of _ (by decide +kernel)) ggX4_call_J6_bitCount_0f7a4
set_option maxRecDepth 100000 in
set_option maxHeartbeats 4000000 in
theorem ggX4_signList_X4_isList : GoodIn wsX4_signList wsX4_isList := goodIn_r _ [8, 2, 9, 10, 11, 12, 13, 14, 15, 16, 7, 17, 51, 52, 53, 54, 55, 56, 57, 58, 59, 60, 61] rfl (by decide +kernel)
set_option maxRecDepth 20000 in
theorem gX4_signList_X4_isList : GoodIn wsX4_signList (wsV RX4 169 RX4 yX4_isList wsX4_isList) := goodIn_app (goodIn_of _ (by decide +kernel)) ggX4_signList_X4_isList
set_option maxRecDepth 100000 in
set_option maxHeartbeats 4000000 in
theorem ggX4_signList_X4_refuse : GoodIn wsX4_signList wsX4_refuse := goodIn_r _ [21, 1, 51, 52, 53, 54, 55, 56, 57, 58] rfl (by decide +kernel)
set_option maxRecDepth 20000 in
theorem gX4_signList_X4_refuse : GoodIn wsX4_signList (wsV RX4 149 RX4 yX4_refuse wsX4_refuse) := goodIn_app (goodIn_of _ (by decide +kernel)) ggX4_signList_X4_refuse
set_option maxRecDepth 100000 in
set_option maxHeartbeats 4000000 in
theorem ggX4_signList_X4_isKey : GoodIn wsX4_signList wsX4_isKey := goodIn_r _ [24, 15, 16, 7, 17] rfl (by decide +kernel)
set_option maxRecDepth 20000 in
theorem gX4_signList_X4_isKey : GoodIn wsX4_signList (va_wsS RX4 146 yX4_isKey wsX4_isKey) := goodIn_app (goodIn_of _ (by decide +kernel)) ggX4_signList_X4_isKey
set_option maxRecDepth 100000 in
set_option maxHeartbeats 4000000 in
theorem ggX4_signList_Jx4a65c_get_915e3 : GoodIn wsX4_signList wsJx4a65c_get_915e3 := goodIn_r _ [28, 14, 29, 30, 31, 32, 33, 34, 35, 36, 37, 38, 39, 12, 40, 41, 59, 60, 61] rfl (by decide +kernel)
set_option maxRecDepth 20000 in
theorem gX4_signList_Jx4a65c_get_915e3 : GoodIn wsX4_signList (wsV RX4 38 RJx4a65c yJx4a65c_get_915e3 wsJx4a65c_get_915e3) := goodIn_app (goodIn_of _ (by decide +kernel)) ggX4_signList_Jx4a65c_get_915e3
set_option maxRecDepth 100000 in
set_option maxHeartbeats 4000000 in
theorem ggX4_signList_X4_printOfList : GoodIn wsX4_signList wsX4_printOfList := goodIn_r _ [44, 45, 46, 7, 47] rfl (by decide +kernel)
set_option maxRecDepth 20000 in
theorem gX4_signList_X4_printOfList : GoodIn wsX4_signList (va_wsS RX4 103 yX4_printOfList wsX4_printOfList) := goodIn_app (goodIn_of _ (by decide +kernel)) ggX4_signList_X4_printOfList
set_option maxRecDepth 100000 in
set_option maxHeartbeats 4000000 in
theorem ggX4_signList_X4_signedNow : GoodIn wsX4_signList wsX4_signedNow := goodIn_r _ [50] rfl (by decide +kernel)
set_option maxRecDepth 20000 in
theorem gX4_signList_X4_signedNow : GoodIn wsX4_signList (va_wsS RX4 47 yX4_signedNow wsX4_signedNow) := goodIn_app (goodIn_of _ (by decide +kernel)) ggX4_signList_X4_signedNow
set_option maxRecDepth 100000 in
set_option maxHeartbeats 4000000 in
theorem ggX4_manyNow_Jx4a65c_size_8abf5 : GoodIn wsX4_manyNow wsJx4a65c_size_8abf5 := goodIn_r _ [8, 9, 156, 157, 158] rfl (by decide +kernel)
set_option maxRecDepth 20000 in
theorem gX4_manyNow_Jx4a65c_size_8abf5 : GoodIn wsX4_manyNow (wsV RX4 54 RJx4a65c yJx4a65c_size_8abf5 wsJx4a65c_size_8abf5) := goodIn_app (goodIn_of _ (by decide +kernel)) ggX4_manyNow_Jx4a65c_size_8abf5
set_option maxRecDepth 100000 in
set_option maxHeartbeats 4000000 in
theorem ggX4_manyNow_X4_anchors : GoodIn wsX4_manyNow wsX4_anchors := goodIn_r _ [14, 1, 15, 16, 17, 18, 7, 19, 20, 21, 22, 23, 24, 25, 26, 27, 28, 29, 30, 31, 32, 33, 34, 35, 36, 37, 38, 39, 40, 41, 42, 43, 44, 45, 46, 47, 148, 149, 150, 151, 152, 153, 154, 155, 159, 160, 161, 162, 156, 157, 158] rfl (by decide +kernel)
set_option maxRecDepth 20000 in
theorem gX4_manyNow_X4_anchors : GoodIn wsX4_manyNow (wsV RX4 166 RX4 yX4_anchors wsX4_anchors) := goodIn_app (goodIn_of _ (by decide +kernel)) ggX4_manyNow_X4_anchors
set_option maxRecDepth 100000 in
set_option maxHeartbeats 4000000 in
theorem ggX4_manyNow_X4_prepare : GoodIn wsX4_manyNow wsX4_prepare := goodIn_r _ [51, 3, 1, 52, 53, 54, 15, 4, 5, 6, 7, 8, 9, 55, 56, 57, 58, 59, 32, 60, 61, 62, 63, 13, 64, 65, 66, 67, 68, 69, 70, 71, 72, 73, 74, 75, 76, 77, 78, 79, 80, 81, 82, 83, 84, 85, 86, 87, 88, 89, 90, 91, 92, 93, 94, 95, 96, 97, 98, 99, 100, 101, 102, 103, 104, 105, 106, 107, 108, 109, 110, 111, 112, 113, 114, 115, 116, 117, 118, 119, 120, 121, 122, 123, 124, 125, 126, 127, 128, 129, 130, 131, 132, 133, 134, 135, 136, 137, 138, 139, 140, 148, 149, 150, 151, 152, 153, 154, 155, 156, 157, 158] rfl (by decide +kernel)
set_option maxRecDepth 20000 in
theorem gX4_manyNow_X4_prepare : GoodIn wsX4_manyNow (wsV RX4 72 RX4 yX4_prepare wsX4_prepare) := goodIn_app (goodIn_of _ (by decide +kernel)) ggX4_manyNow_X4_prepare
set_option maxRecDepth 100000 in
set_option maxHeartbeats 4000000 in
theorem ggX4_manyNow_J6_bitCount_0f7a4 : GoodIn wsX4_manyNow wsJ6_bitCount_0f7a4 := goodIn_r _ [144, 145, 146, 147] rfl (by decide +kernel)
set_option maxRecDepth 20000 in
theorem gX4_manyNow_J6_bitCount_0f7a4 : GoodIn wsX4_manyNow (va_wsS RX4 172 yJ6_bitCount_0f7a4 wsJ6_bitCount_0f7a4) := goodIn_app (goodIn_of _ (by decide +kernel)) ggX4_manyNow_J6_bitCount_0f7a4
set_option maxRecDepth 100000 in
set_option maxHeartbeats 4000000 in
theorem ggX4_many_X4_is : GoodIn wsX4_many wsX4_is := goodIn_r _ [5] rfl (by decide +kernel)
set_option maxRecDepth 20000 in
theorem gX4_many_X4_is : GoodIn wsX4_many (va_wsS RX4 26 yX4_is wsX4_is) := goodIn_app (goodIn_of _ (by decide +kernel)) ggX4_many_X4_is
set_option maxRecDepth 100000 in
set_option maxHeartbeats 4000000 in
theorem ggX4_many_X4_manyNow : GoodIn wsX4_many wsX4_manyNow := goodIn_r _ [9, 10, 11, 12, 13, 14, 15, 16, 17, 18, 19, 20, 21, 4, 22, 23, 24, 25, 26, 27, 28, 29, 30, 31, 32, 33, 34, 35, 36, 37, 38, 39, 40, 41, 42, 43, 44, 45, 46, 47, 48, 49, 50, 51, 52, 53, 54, 55, 56, 57, 58, 59, 60, 61, 62, 63, 64, 65, 66, 67, 68, 69, 70, 71, 72, 73, 74, 75, 76, 77, 78, 79, 80, 81, 82, 83, 84, 85, 86, 87, 88, 89, 90, 91, 92, 93, 94, 95, 96, 97, 98, 99, 100, 101, 102, 103, 104, 105, 106, 107, 108, 109, 110, 111, 112, 113, 114, 115, 116, 117, 118, 119, 120, 121, 122, 123, 124, 125, 126, 127, 128, 129, 130, 131, 132, 133, 134, 135, 136, 137, 138, 139, 140, 141, 142, 143, 144, 145, 146, 147, 148, 149, 150, 151, 152, 153, 154, 155, 160, 161, 162, 163, 164, 165, 166, 167, 168, 169, 170, 171, 172, 173, 174] rfl (by decide +kernel)
