/-! names, printed: 7 -/
set_option maxRecDepth 20000 in
theorem gX4_many_X4_manyNow : GoodIn wsX4_many (wsV RX4 177 RX4 yX4_manyNow wsX4_manyNow) := goodIn_app (goodIn_of _ (by decide +kernel)) ggX4_many_X4_manyNow
set_option maxRecDepth 100000 in
set_option maxHeartbeats 4000000 in
theorem ggX4_many_X4_refuse : GoodIn wsX4_many wsX4_refuse := goodIn_r _ [159, 1, 160, 161, 162, 163, 164, 165, 166, 167] rfl (by decide +kernel)
set_option maxRecDepth 20000 in
theorem gX4_many_X4_refuse : GoodIn wsX4_many (wsV RX4 149 RX4 yX4_refuse wsX4_refuse) := goodIn_app (goodIn_of _ (by decide +kernel)) ggX4_many_X4_refuse
set_option maxRecDepth 100000 in
set_option maxHeartbeats 4000000 in
theorem ggX4_ofLetterNow_X4_print_ : GoodIn wsX4_ofLetterNow wsX4_print_ := goodIn_r _ [4, 5, 6, 3, 7] rfl (by decide +kernel)
set_option maxRecDepth 20000 in
theorem gX4_ofLetterNow_X4_print_ : GoodIn wsX4_ofLetterNow (va_wsS RX4 44 yX4_print_ wsX4_print_) := goodIn_app (goodIn_of _ (by decide +kernel)) ggX4_ofLetterNow_X4_print_
set_option maxRecDepth 100000 in
set_option maxHeartbeats 4000000 in
theorem ggX4_ofLetter_X4_isLetter : GoodIn wsX4_ofLetter wsX4_isLetter := goodIn_r _ [8, 2, 9, 10, 11, 12, 13, 14, 15, 16, 7, 17, 48, 49, 50, 51, 52, 53, 54, 55, 56, 57, 58] rfl (by decide +kernel)
set_option maxRecDepth 20000 in
theorem gX4_ofLetter_X4_isLetter : GoodIn wsX4_ofLetter (wsV RX4 156 RX4 yX4_isLetter wsX4_isLetter) := goodIn_app (goodIn_of _ (by decide +kernel)) ggX4_ofLetter_X4_isLetter
set_option maxRecDepth 100000 in
set_option maxHeartbeats 4000000 in
theorem ggX4_ofLetter_X4_refuse : GoodIn wsX4_ofLetter wsX4_refuse := goodIn_r _ [21, 1, 48, 49, 50, 51, 52, 53, 54, 55] rfl (by decide +kernel)
set_option maxRecDepth 20000 in
theorem gX4_ofLetter_X4_refuse : GoodIn wsX4_ofLetter (wsV RX4 149 RX4 yX4_refuse wsX4_refuse) := goodIn_app (goodIn_of _ (by decide +kernel)) ggX4_ofLetter_X4_refuse
set_option maxRecDepth 100000 in
set_option maxHeartbeats 4000000 in
theorem ggX4_ofLetter_X4_is : GoodIn wsX4_ofLetter wsX4_is := goodIn_r _ [17] rfl (by decide +kernel)
set_option maxRecDepth 20000 in
theorem gX4_ofLetter_X4_is : GoodIn wsX4_ofLetter (va_wsS RX4 26 yX4_is wsX4_is) := goodIn_app (goodIn_of _ (by decide +kernel)) ggX4_ofLetter_X4_is
set_option maxRecDepth 100000 in
set_option maxHeartbeats 4000000 in
theorem ggX4_ofLetter_Jx4a65c_get_915e3 : GoodIn wsX4_ofLetter wsJx4a65c_get_915e3 := goodIn_r _ [25, 14, 26, 27, 28, 29, 30, 31, 32, 33, 34, 35, 36, 12, 37, 38, 56, 57, 58] rfl (by decide +kernel)
set_option maxRecDepth 20000 in
theorem gX4_ofLetter_Jx4a65c_get_915e3 : GoodIn wsX4_ofLetter (wsV RX4 38 RJx4a65c yJx4a65c_get_915e3 wsJx4a65c_get_915e3) := goodIn_app (goodIn_of _ (by decide +kernel)) ggX4_ofLetter_Jx4a65c_get_915e3
set_option maxRecDepth 100000 in
set_option maxHeartbeats 4000000 in
theorem ggX4_ofLetter_X4_ofLetterNow : GoodIn wsX4_ofLetter wsX4_ofLetterNow := goodIn_r _ [41, 42, 43, 7, 44, 45, 46, 47] rfl (by decide +kernel)
set_option maxRecDepth 20000 in
theorem gX4_ofLetter_X4_ofLetterNow : GoodIn wsX4_ofLetter (va_wsS RX4 180 yX4_ofLetterNow wsX4_ofLetterNow) := goodIn_app (goodIn_of _ (by decide +kernel)) ggX4_ofLetter_X4_ofLetterNow
set_option maxRecDepth 100000 in
set_option maxHeartbeats 4000000 in
theorem ggX4_ofListNow_X4_printOfList : GoodIn wsX4_ofListNow wsX4_printOfList := goodIn_r _ [4, 5, 6, 3, 7] rfl (by decide +kernel)
set_option maxRecDepth 20000 in
theorem gX4_ofListNow_X4_printOfList : GoodIn wsX4_ofListNow (va_wsS RX4 103 yX4_printOfList wsX4_printOfList) := goodIn_app (goodIn_of _ (by decide +kernel)) ggX4_ofListNow_X4_printOfList
set_option maxRecDepth 100000 in
set_option maxHeartbeats 4000000 in
theorem ggX4_ofList_X4_isList : GoodIn wsX4_ofList wsX4_isList := goodIn_r _ [8, 2, 9, 10, 11, 12, 13, 14, 15, 16, 7, 17, 48, 49, 50, 51, 52, 53, 54, 55, 56, 57, 58] rfl (by decide +kernel)
set_option maxRecDepth 20000 in
theorem gX4_ofList_X4_isList : GoodIn wsX4_ofList (wsV RX4 169 RX4 yX4_isList wsX4_isList) := goodIn_app (goodIn_of _ (by decide +kernel)) ggX4_ofList_X4_isList
set_option maxRecDepth 100000 in
set_option maxHeartbeats 4000000 in
theorem ggX4_ofList_X4_refuse : GoodIn wsX4_ofList wsX4_refuse := goodIn_r _ [21, 1, 48, 49, 50, 51, 52, 53, 54, 55] rfl (by decide +kernel)
set_option maxRecDepth 20000 in
theorem gX4_ofList_X4_refuse : GoodIn wsX4_ofList (wsV RX4 149 RX4 yX4_refuse wsX4_refuse) := goodIn_app (goodIn_of _ (by decide +kernel)) ggX4_ofList_X4_refuse
set_option maxRecDepth 100000 in
set_option maxHeartbeats 4000000 in
theorem ggX4_ofList_X4_is : GoodIn wsX4_ofList wsX4_is := goodIn_r _ [17] rfl (by decide +kernel)
set_option maxRecDepth 20000 in
theorem gX4_ofList_X4_is : GoodIn wsX4_ofList (va_wsS RX4 26 yX4_is wsX4_is) := goodIn_app (goodIn_of _ (by decide +kernel)) ggX4_ofList_X4_is
set_option maxRecDepth 100000 in
set_option maxHeartbeats 4000000 in
theorem ggX4_ofList_Jx4a65c_get_915e3 : GoodIn wsX4_ofList wsJx4a65c_get_915e3 := goodIn_r _ [25, 14, 26, 27, 28, 29, 30, 31, 32, 33, 34, 35, 36, 12, 37, 38, 56, 57, 58] rfl (by decide +kernel)
set_option maxRecDepth 20000 in
theorem gX4_ofList_Jx4a65c_get_915e3 : GoodIn wsX4_ofList (wsV RX4 38 RJx4a65c yJx4a65c_get_915e3 wsJx4a65c_get_915e3) := goodIn_app (goodIn_of _ (by decide +kernel)) ggX4_ofList_Jx4a65c_get_915e3
set_option maxRecDepth 100000 in
set_option maxHeartbeats 4000000 in
theorem ggX4_ofList_X4_ofListNow : GoodIn wsX4_ofList wsX4_ofListNow := goodIn_r _ [41, 42, 43, 7, 44, 45, 46, 47] rfl (by decide +kernel)
set_option maxRecDepth 20000 in
theorem gX4_ofList_X4_ofListNow : GoodIn wsX4_ofList (va_wsS RX4 184 yX4_ofListNow wsX4_ofListNow) := goodIn_app (goodIn_of _ (by decide +kernel)) ggX4_ofList_X4_ofListNow
set_option maxRecDepth 100000 in
set_option maxHeartbeats 4000000 in
theorem ggX4_signed_X4_isKey : GoodIn wsX4_signed wsX4_isKey := goodIn_r _ [5, 6, 7, 4, 8] rfl (by decide +kernel)
set_option maxRecDepth 20000 in
theorem gX4_signed_X4_isKey : GoodIn wsX4_signed (va_wsS RX4 146 yX4_isKey wsX4_isKey) := goodIn_app (goodIn_of _ (by decide +kernel)) ggX4_signed_X4_isKey
set_option maxRecDepth 100000 in
set_option maxHeartbeats 4000000 in
theorem ggX4_signed_X4_isNumber : GoodIn wsX4_signed wsX4_isNumber := goodIn_r _ [11, 6, 7, 4, 8] rfl (by decide +kernel)
set_option maxRecDepth 20000 in
theorem gX4_signed_X4_isNumber : GoodIn wsX4_signed (va_wsS RX4 187 yX4_isNumber wsX4_isNumber) := goodIn_app (goodIn_of _ (by decide +kernel)) ggX4_signed_X4_isNumber
set_option maxRecDepth 100000 in
set_option maxHeartbeats 4000000 in
theorem ggX4_signed_X4_signedNow : GoodIn wsX4_signed wsX4_signedNow := goodIn_r _ [14] rfl (by decide +kernel)
set_option maxRecDepth 20000 in
theorem gX4_signed_X4_signedNow : GoodIn wsX4_signed (va_wsS RX4 47 yX4_signedNow wsX4_signedNow) := goodIn_app (goodIn_of _ (by decide +kernel)) ggX4_signed_X4_signedNow
set_option maxRecDepth 100000 in
set_option maxHeartbeats 4000000 in
theorem ggX4_signed_X4_refuse : GoodIn wsX4_signed wsX4_refuse := goodIn_r _ [18, 1, 19, 20, 21, 22, 23, 24, 25, 26] rfl (by decide +kernel)
set_option maxRecDepth 20000 in
theorem gX4_signed_X4_refuse : GoodIn wsX4_signed (wsV RX4 149 RX4 yX4_refuse wsX4_refuse) := goodIn_app (goodIn_of _ (by decide +kernel)) ggX4_signed_X4_refuse
set_option maxRecDepth 100000 in
set_option maxHeartbeats 4000000 in
theorem ggX4_signer_X4_isNumber : GoodIn wsX4_signer wsX4_isNumber := goodIn_r _ [5, 6, 7, 4, 8] rfl (by decide +kernel)
set_option maxRecDepth 20000 in
theorem gX4_signer_X4_isNumber : GoodIn wsX4_signer (va_wsS RX4 187 yX4_isNumber wsX4_isNumber) := goodIn_app (goodIn_of _ (by decide +kernel)) ggX4_signer_X4_isNumber
set_option maxRecDepth 100000 in
set_option maxHeartbeats 4000000 in
theorem ggX4_signer_X4_refuse : GoodIn wsX4_signer wsX4_refuse := goodIn_r _ [12, 1, 16, 17, 18, 19, 20, 21, 22, 23] rfl (by decide +kernel)
set_option maxRecDepth 20000 in
theorem gX4_signer_X4_refuse : GoodIn wsX4_signer (wsV RX4 149 RX4 yX4_refuse wsX4_refuse) := goodIn_app (goodIn_of _ (by decide +kernel)) ggX4_signer_X4_refuse
set_option maxRecDepth 100000 in
set_option maxHeartbeats 4000000 in
theorem ggX4_signer_X4_signedNow : GoodIn wsX4_signer wsX4_signedNow := goodIn_r _ [15] rfl (by decide +kernel)
set_option maxRecDepth 20000 in
theorem gX4_signer_X4_signedNow : GoodIn wsX4_signer (va_wsS RX4 47 yX4_signedNow wsX4_signedNow) := goodIn_app (goodIn_of _ (by decide +kernel)) ggX4_signer_X4_signedNow
set_option maxRecDepth 100000 in
set_option maxHeartbeats 4000000 in
theorem ggX4_isUnder_X4_isName : GoodIn wsX4_isUnder wsX4_isName := goodIn_r _ [5, 6, 7, 4, 8] rfl (by decide +kernel)
set_option maxRecDepth 20000 in
theorem gX4_isUnder_X4_isName : GoodIn wsX4_isUnder (va_wsS RX4 30 yX4_isName wsX4_isName) := goodIn_app (goodIn_of _ (by decide +kernel)) ggX4_isUnder_X4_isName
set_option maxRecDepth 100000 in
set_option maxHeartbeats 4000000 in
theorem ggX4_isUnder_X4_isNameOrAll : GoodIn wsX4_isUnder wsX4_isNameOrAll := goodIn_r _ [11, 2, 3, 4, 5, 6, 7, 8] rfl (by decide +kernel)
set_option maxRecDepth 20000 in
theorem gX4_isUnder_X4_isNameOrAll : GoodIn wsX4_isUnder (va_wsS RX4 163 yX4_isNameOrAll wsX4_isNameOrAll) := goodIn_app (goodIn_of _ (by decide +kernel)) ggX4_isUnder_X4_isNameOrAll
set_option maxRecDepth 100000 in
set_option maxHeartbeats 4000000 in
theorem ggX4_isUnder_X4_isUnderNow : GoodIn wsX4_isUnder wsX4_isUnderNow := goodIn_r _ [14] rfl (by decide +kernel)
set_option maxRecDepth 20000 in
theorem gX4_isUnder_X4_isUnderNow : GoodIn wsX4_isUnder (va_wsS RX4 110 yX4_isUnderNow wsX4_isUnderNow) := goodIn_app (goodIn_of _ (by decide +kernel)) ggX4_isUnder_X4_isUnderNow
set_option maxRecDepth 100000 in
set_option maxHeartbeats 4000000 in
theorem ggX4_backs_X4_isLetter : GoodIn wsX4_backs wsX4_isLetter := goodIn_r _ [6, 7, 8, 9, 10, 11, 12, 13, 14, 15, 5, 16, 48, 49, 50, 51, 52, 53, 54, 55, 56, 57, 58] rfl (by decide +kernel)
set_option maxRecDepth 20000 in
theorem gX4_backs_X4_isLetter : GoodIn wsX4_backs (wsV RX4 156 RX4 yX4_isLetter wsX4_isLetter) := goodIn_app (goodIn_of _ (by decide +kernel)) ggX4_backs_X4_isLetter
set_option maxRecDepth 100000 in
set_option maxHeartbeats 4000000 in
theorem ggX4_backs_X4_backsNow : GoodIn wsX4_backs wsX4_backsNow := goodIn_r _ [20, 7, 21, 22, 23, 24, 11, 25, 13, 26, 27, 28, 29, 30, 31, 32, 33, 34, 35, 36, 37, 38, 39, 40, 5, 41, 42, 43, 44, 45, 46, 47, 48, 49, 50, 51, 52, 53, 54, 55, 56, 57, 58] rfl (by decide +kernel)
set_option maxRecDepth 20000 in
theorem gX4_backs_X4_backsNow : GoodIn wsX4_backs (wsV RX4 64 RX4 yX4_backsNow wsX4_backsNow) := goodIn_app (goodIn_of _ (by decide +kernel)) ggX4_backs_X4_backsNow
set_option maxRecDepth 100000 in
set_option maxHeartbeats 4000000 in
theorem ggX4_chains_X4_isLetter : GoodIn wsX4_chains wsX4_isLetter := goodIn_r _ [6, 7, 8, 9, 10, 11, 12, 13, 14, 15, 5, 16, 148, 149, 150, 151, 152, 153, 154, 155, 156, 157, 158] rfl (by decide +kernel)
set_option maxRecDepth 20000 in
theorem gX4_chains_X4_isLetter : GoodIn wsX4_chains (wsV RX4 156 RX4 yX4_isLetter wsX4_isLetter) := goodIn_app (goodIn_of _ (by decide +kernel)) ggX4_chains_X4_isLetter
set_option maxRecDepth 100000 in
set_option maxHeartbeats 4000000 in
theorem ggX4_chains_X4_chainsOf : GoodIn wsX4_chains wsX4_chainsOf := goodIn_r _ [20, 21, 22, 23, 24, 11, 25, 26, 27, 28, 5, 29, 30, 7, 31, 32, 8, 9, 10, 12, 13, 33, 34, 35, 36, 37, 38, 39, 40, 41, 42, 43, 44, 45, 46, 47, 48, 49, 50, 51, 52, 53, 54, 55, 56, 57, 58, 59, 60, 61, 62, 63, 64, 65, 66, 67, 68, 69, 70, 71, 72, 73, 74, 75, 76, 77, 78, 79, 80, 81, 82, 83, 84, 85, 86, 87, 88, 89, 90, 91, 92, 93, 94, 95, 96, 97, 98, 99, 100, 101, 102, 103, 104, 105, 106, 107, 108, 109, 110, 111, 112, 113, 114, 115, 116, 117, 118, 119, 120, 121, 122, 123, 124, 125, 126, 127, 128, 129, 130, 131, 132, 133, 134, 135, 136, 137, 138, 139, 140, 141, 142, 143, 148, 149, 150, 151, 152, 153, 154, 155, 156, 157, 158] rfl (by decide +kernel)
set_option maxRecDepth 20000 in
theorem gX4_chains_X4_chainsOf : GoodIn wsX4_chains (wsV RX4 125 RX4 yX4_chainsOf wsX4_chainsOf) := goodIn_app (goodIn_of _ (by decide +kernel)) ggX4_chains_X4_chainsOf
set_option maxRecDepth 100000 in
set_option maxHeartbeats 4000000 in
theorem ggX4_chains_Jx4a65c_size_8abf5 : GoodIn wsX4_chains wsJx4a65c_size_8abf5 := goodIn_r _ [12, 13, 156, 157, 158] rfl (by decide +kernel)
set_option maxRecDepth 20000 in
theorem gX4_chains_Jx4a65c_size_8abf5 : GoodIn wsX4_chains (wsV RX4 54 RJx4a65c yJx4a65c_size_8abf5 wsJx4a65c_size_8abf5) := goodIn_app (goodIn_of _ (by decide +kernel)) ggX4_chains_Jx4a65c_size_8abf5
set_option maxRecDepth 100000 in
set_option maxHeartbeats 4000000 in
theorem ggX4_chains_X4_refuse : GoodIn wsX4_chains wsX4_refuse := goodIn_r _ [147, 1, 148, 149, 150, 151, 152, 153, 154, 155] rfl (by decide +kernel)
set_option maxRecDepth 20000 in
theorem gX4_chains_X4_refuse : GoodIn wsX4_chains (wsV RX4 149 RX4 yX4_refuse wsX4_refuse) := goodIn_app (goodIn_of _ (by decide +kernel)) ggX4_chains_X4_refuse
set_option maxRecDepth 100000 in
set_option maxHeartbeats 4000000 in
theorem ggX4_verdict_X4_isLetter : GoodIn wsX4_verdict wsX4_isLetter := goodIn_r _ [6, 7, 8, 9, 10, 11, 12, 13, 14, 15, 5, 16, 219, 220, 221, 222, 223, 224, 225, 226, 227, 228, 229] rfl (by decide +kernel)
