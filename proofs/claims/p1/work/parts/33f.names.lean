/-! names, printed: 5 -/
set_option maxRecDepth 20000 in
theorem gX4_isNumber_X4_is : GoodIn wsX4_isNumber (va_wsS RX4 26 yX4_is wsX4_is) := goodIn_app (goodIn_of _ (by decide +kernel)) ggX4_isNumber_X4_is
set_option maxRecDepth 100000 in
set_option maxHeartbeats 4000000 in
theorem ggX4_letter_X4_isName : GoodIn wsX4_letter wsX4_isName := goodIn_r _ [7, 8, 9, 6, 10] rfl (by decide +kernel)
set_option maxRecDepth 20000 in
theorem gX4_letter_X4_isName : GoodIn wsX4_letter (va_wsS RX4 30 yX4_isName wsX4_isName) := goodIn_app (goodIn_of _ (by decide +kernel)) ggX4_letter_X4_isName
set_option maxRecDepth 100000 in
set_option maxHeartbeats 4000000 in
theorem ggX4_letter_X4_isKey : GoodIn wsX4_letter wsX4_isKey := goodIn_r _ [13, 8, 9, 6, 10] rfl (by decide +kernel)
set_option maxRecDepth 20000 in
theorem gX4_letter_X4_isKey : GoodIn wsX4_letter (va_wsS RX4 146 yX4_isKey wsX4_isKey) := goodIn_app (goodIn_of _ (by decide +kernel)) ggX4_letter_X4_isKey
set_option maxRecDepth 100000 in
set_option maxHeartbeats 4000000 in
theorem ggX4_letter_X4_is : GoodIn wsX4_letter wsX4_is := goodIn_r _ [10] rfl (by decide +kernel)
set_option maxRecDepth 20000 in
theorem gX4_letter_X4_is : GoodIn wsX4_letter (va_wsS RX4 26 yX4_is wsX4_is) := goodIn_app (goodIn_of _ (by decide +kernel)) ggX4_letter_X4_is
set_option maxRecDepth 100000 in
set_option maxHeartbeats 4000000 in
theorem ggX4_letter_X4_refuse : GoodIn wsX4_letter wsX4_refuse := goodIn_r _ [17, 1, 83, 84, 85, 86, 87, 88, 89, 90] rfl (by decide +kernel)
set_option maxRecDepth 20000 in
theorem gX4_letter_X4_refuse : GoodIn wsX4_letter (wsV RX4 149 RX4 yX4_refuse wsX4_refuse) := goodIn_app (goodIn_of _ (by decide +kernel)) ggX4_letter_X4_refuse
set_option maxRecDepth 100000 in
set_option maxHeartbeats 4000000 in
theorem ggX4_letter_Jx4a65c_size_8abf5 : GoodIn wsX4_letter wsJx4a65c_size_8abf5 := goodIn_r _ [22, 23, 91, 92, 93] rfl (by decide +kernel)
set_option maxRecDepth 20000 in
theorem gX4_letter_Jx4a65c_size_8abf5 : GoodIn wsX4_letter (wsV RX4 54 RJx4a65c yJx4a65c_size_8abf5 wsJx4a65c_size_8abf5) := goodIn_app (goodIn_of _ (by decide +kernel)) ggX4_letter_Jx4a65c_size_8abf5
set_option maxRecDepth 100000 in
set_option maxHeartbeats 4000000 in
theorem ggX4_letter_Jx4a65c_add_9ea2d : GoodIn wsX4_letter wsJx4a65c_add_9ea2d := goodIn_r _ [27, 28, 29, 30, 23, 31, 32, 33, 21, 34, 35, 36, 37, 38, 39, 40, 41, 42, 43, 44, 45, 46, 47, 48, 49, 50, 51, 52, 53, 54, 55, 56, 57, 58, 59, 60, 61, 62, 63, 64, 65, 66, 67, 68, 69, 70, 71, 72, 73, 74, 75, 76, 77, 91, 92, 93] rfl (by decide +kernel)
set_option maxRecDepth 20000 in
theorem gX4_letter_Jx4a65c_add_9ea2d : GoodIn wsX4_letter (wsV RX4 68 RJx4a65c yJx4a65c_add_9ea2d wsJx4a65c_add_9ea2d) := goodIn_app (goodIn_of _ (by decide +kernel)) ggX4_letter_Jx4a65c_add_9ea2d
set_option maxRecDepth 100000 in
set_option maxHeartbeats 4000000 in
theorem ggX4_letter_X4_forget : GoodIn wsX4_letter wsX4_forget := goodIn_r _ [81, 82, 83, 84, 85, 86, 87, 88, 89, 90] rfl (by decide +kernel)
set_option maxRecDepth 20000 in
theorem gX4_letter_X4_forget : GoodIn wsX4_letter (wsV RX4 153 RX4 yX4_forget wsX4_forget) := goodIn_app (goodIn_of _ (by decide +kernel)) ggX4_letter_X4_forget
set_option maxRecDepth 100000 in
set_option maxHeartbeats 4000000 in
theorem ggX4_becomes_Jx4a65c_get_915e3 : GoodIn wsX4_becomes wsJx4a65c_get_915e3 := goodIn_r _ [7, 8, 9, 10, 11, 12, 13, 14, 15, 16, 17, 18, 19, 6, 20, 21, 42, 43, 44] rfl (by decide +kernel)
set_option maxRecDepth 20000 in
theorem gX4_becomes_Jx4a65c_get_915e3 : GoodIn wsX4_becomes (wsV RX4 38 RJx4a65c yJx4a65c_get_915e3 wsJx4a65c_get_915e3) := goodIn_app (goodIn_of _ (by decide +kernel)) ggX4_becomes_Jx4a65c_get_915e3
set_option maxRecDepth 100000 in
set_option maxHeartbeats 4000000 in
theorem ggX4_becomes_X4_forget : GoodIn wsX4_becomes wsX4_forget := goodIn_r _ [26, 27, 34, 35, 36, 37, 38, 39, 40, 41] rfl (by decide +kernel)
set_option maxRecDepth 20000 in
theorem gX4_becomes_X4_forget : GoodIn wsX4_becomes (wsV RX4 153 RX4 yX4_forget wsX4_forget) := goodIn_app (goodIn_of _ (by decide +kernel)) ggX4_becomes_X4_forget
set_option maxRecDepth 100000 in
set_option maxHeartbeats 4000000 in
theorem ggX4_becomes_X4_print_ : GoodIn wsX4_becomes wsX4_print_ := goodIn_r _ [30, 31, 32, 25, 33] rfl (by decide +kernel)
set_option maxRecDepth 20000 in
theorem gX4_becomes_X4_print_ : GoodIn wsX4_becomes (va_wsS RX4 44 yX4_print_ wsX4_print_) := goodIn_app (goodIn_of _ (by decide +kernel)) ggX4_becomes_X4_print_
set_option maxRecDepth 100000 in
set_option maxHeartbeats 4000000 in
theorem ggX4_times_X4_isLetter : GoodIn wsX4_times wsX4_isLetter := goodIn_r _ [6, 7, 8, 9, 10, 11, 12, 13, 14, 15, 5, 16, 57, 58, 59, 60, 61, 62, 63, 64, 65, 66, 67] rfl (by decide +kernel)
set_option maxRecDepth 20000 in
theorem gX4_times_X4_isLetter : GoodIn wsX4_times (wsV RX4 156 RX4 yX4_isLetter wsX4_isLetter) := goodIn_app (goodIn_of _ (by decide +kernel)) ggX4_times_X4_isLetter
set_option maxRecDepth 100000 in
set_option maxHeartbeats 4000000 in
theorem ggX4_times_X4_refuse : GoodIn wsX4_times wsX4_refuse := goodIn_r _ [20, 1, 57, 58, 59, 60, 61, 62, 63, 64] rfl (by decide +kernel)
set_option maxRecDepth 20000 in
theorem gX4_times_X4_refuse : GoodIn wsX4_times (wsV RX4 149 RX4 yX4_refuse wsX4_refuse) := goodIn_app (goodIn_of _ (by decide +kernel)) ggX4_times_X4_refuse
set_option maxRecDepth 100000 in
set_option maxHeartbeats 4000000 in
theorem ggX4_times_X4_isTime : GoodIn wsX4_times wsX4_isTime := goodIn_r _ [23, 14, 15, 5, 16] rfl (by decide +kernel)
set_option maxRecDepth 20000 in
theorem gX4_times_X4_isTime : GoodIn wsX4_times (va_wsS RX4 143 yX4_isTime wsX4_isTime) := goodIn_app (goodIn_of _ (by decide +kernel)) ggX4_times_X4_isTime
set_option maxRecDepth 100000 in
set_option maxHeartbeats 4000000 in
theorem ggX4_times_X4_becomes : GoodIn wsX4_times wsX4_becomes := goodIn_r _ [27, 7, 28, 29, 30, 31, 11, 32, 13, 33, 34, 35, 36, 37, 38, 39, 40, 41, 42, 43, 44, 45, 46, 47, 48, 5, 49, 50, 51, 52, 53, 54, 55, 56, 57, 58, 59, 60, 61, 62, 63, 64, 65, 66, 67] rfl (by decide +kernel)
set_option maxRecDepth 20000 in
theorem gX4_times_X4_becomes : GoodIn wsX4_times (wsV RX4 159 RX4 yX4_becomes wsX4_becomes) := goodIn_app (goodIn_of _ (by decide +kernel)) ggX4_times_X4_becomes
set_option maxRecDepth 100000 in
set_option maxHeartbeats 4000000 in
theorem ggX4_master_X4_isLetter : GoodIn wsX4_master wsX4_isLetter := goodIn_r _ [6, 7, 8, 9, 10, 11, 12, 13, 14, 15, 5, 16, 54, 55, 56, 57, 58, 59, 60, 61, 62, 63, 64] rfl (by decide +kernel)
set_option maxRecDepth 20000 in
theorem gX4_master_X4_isLetter : GoodIn wsX4_master (wsV RX4 156 RX4 yX4_isLetter wsX4_isLetter) := goodIn_app (goodIn_of _ (by decide +kernel)) ggX4_master_X4_isLetter
set_option maxRecDepth 100000 in
set_option maxHeartbeats 4000000 in
theorem ggX4_master_X4_refuse : GoodIn wsX4_master wsX4_refuse := goodIn_r _ [20, 1, 54, 55, 56, 57, 58, 59, 60, 61] rfl (by decide +kernel)
set_option maxRecDepth 20000 in
theorem gX4_master_X4_refuse : GoodIn wsX4_master (wsV RX4 149 RX4 yX4_refuse wsX4_refuse) := goodIn_app (goodIn_of _ (by decide +kernel)) ggX4_master_X4_refuse
set_option maxRecDepth 100000 in
set_option maxHeartbeats 4000000 in
theorem ggX4_master_X4_is : GoodIn wsX4_master wsX4_is := goodIn_r _ [16] rfl (by decide +kernel)
set_option maxRecDepth 20000 in
theorem gX4_master_X4_is : GoodIn wsX4_master (va_wsS RX4 26 yX4_is wsX4_is) := goodIn_app (goodIn_of _ (by decide +kernel)) ggX4_master_X4_is
set_option maxRecDepth 100000 in
set_option maxHeartbeats 4000000 in
theorem ggX4_master_X4_becomes : GoodIn wsX4_master wsX4_becomes := goodIn_r _ [24, 7, 25, 26, 27, 28, 11, 29, 13, 30, 31, 32, 33, 34, 35, 36, 37, 38, 39, 40, 41, 42, 43, 44, 45, 5, 46, 47, 48, 49, 50, 51, 52, 53, 54, 55, 56, 57, 58, 59, 60, 61, 62, 63, 64] rfl (by decide +kernel)
set_option maxRecDepth 20000 in
theorem gX4_master_X4_becomes : GoodIn wsX4_master (wsV RX4 159 RX4 yX4_becomes wsX4_becomes) := goodIn_app (goodIn_of _ (by decide +kernel)) ggX4_master_X4_becomes
set_option maxRecDepth 100000 in
set_option maxHeartbeats 4000000 in
theorem ggX4_good_X4_isLetter : GoodIn wsX4_good wsX4_isLetter := goodIn_r _ [6, 7, 8, 9, 10, 11, 12, 13, 14, 15, 5, 16, 60, 61, 62, 63, 64, 65, 66, 67, 68, 69, 70] rfl (by decide +kernel)
set_option maxRecDepth 20000 in
theorem gX4_good_X4_isLetter : GoodIn wsX4_good (wsV RX4 156 RX4 yX4_isLetter wsX4_isLetter) := goodIn_app (goodIn_of _ (by decide +kernel)) ggX4_good_X4_isLetter
set_option maxRecDepth 100000 in
set_option maxHeartbeats 4000000 in
theorem ggX4_good_X4_refuse : GoodIn wsX4_good wsX4_refuse := goodIn_r _ [20, 1, 60, 61, 62, 63, 64, 65, 66, 67] rfl (by decide +kernel)
set_option maxRecDepth 20000 in
theorem gX4_good_X4_refuse : GoodIn wsX4_good (wsV RX4 149 RX4 yX4_refuse wsX4_refuse) := goodIn_app (goodIn_of _ (by decide +kernel)) ggX4_good_X4_refuse
set_option maxRecDepth 100000 in
set_option maxHeartbeats 4000000 in
theorem ggX4_good_X4_is : GoodIn wsX4_good wsX4_is := goodIn_r _ [16] rfl (by decide +kernel)
set_option maxRecDepth 20000 in
theorem gX4_good_X4_is : GoodIn wsX4_good (va_wsS RX4 26 yX4_is wsX4_is) := goodIn_app (goodIn_of _ (by decide +kernel)) ggX4_good_X4_is
set_option maxRecDepth 100000 in
set_option maxHeartbeats 4000000 in
theorem ggX4_good_X4_isNameOrAll : GoodIn wsX4_good wsX4_isNameOrAll := goodIn_r _ [23, 24, 25, 5, 26, 14, 15, 16] rfl (by decide +kernel)
set_option maxRecDepth 20000 in
theorem gX4_good_X4_isNameOrAll : GoodIn wsX4_good (va_wsS RX4 163 yX4_isNameOrAll wsX4_isNameOrAll) := goodIn_app (goodIn_of _ (by decide +kernel)) ggX4_good_X4_isNameOrAll
set_option maxRecDepth 100000 in
set_option maxHeartbeats 4000000 in
theorem ggX4_good_X4_becomes : GoodIn wsX4_good wsX4_becomes := goodIn_r _ [30, 7, 31, 32, 33, 34, 11, 35, 13, 36, 37, 38, 39, 40, 41, 42, 43, 44, 45, 46, 47, 48, 49, 50, 51, 5, 52, 53, 54, 55, 56, 57, 58, 59, 60, 61, 62, 63, 64, 65, 66, 67, 68, 69, 70] rfl (by decide +kernel)
set_option maxRecDepth 20000 in
theorem gX4_good_X4_becomes : GoodIn wsX4_good (wsV RX4 159 RX4 yX4_becomes wsX4_becomes) := goodIn_app (goodIn_of _ (by decide +kernel)) ggX4_good_X4_becomes
set_option maxRecDepth 100000 in
set_option maxHeartbeats 4000000 in
theorem ggX4_sign_X4_isLetter : GoodIn wsX4_sign wsX4_isLetter := goodIn_r _ [8, 2, 9, 10, 11, 12, 13, 14, 15, 16, 7, 17, 56, 57, 58, 59, 60, 61, 62, 63, 64, 65, 66] rfl (by decide +kernel)
set_option maxRecDepth 20000 in
theorem gX4_sign_X4_isLetter : GoodIn wsX4_sign (wsV RX4 156 RX4 yX4_isLetter wsX4_isLetter) := goodIn_app (goodIn_of _ (by decide +kernel)) ggX4_sign_X4_isLetter
set_option maxRecDepth 100000 in
set_option maxHeartbeats 4000000 in
theorem ggX4_sign_X4_refuse : GoodIn wsX4_sign wsX4_refuse := goodIn_r _ [21, 1, 56, 57, 58, 59, 60, 61, 62, 63] rfl (by decide +kernel)
set_option maxRecDepth 20000 in
theorem gX4_sign_X4_refuse : GoodIn wsX4_sign (wsV RX4 149 RX4 yX4_refuse wsX4_refuse) := goodIn_app (goodIn_of _ (by decide +kernel)) ggX4_sign_X4_refuse
set_option maxRecDepth 100000 in
set_option maxHeartbeats 4000000 in
theorem ggX4_sign_X4_isKey : GoodIn wsX4_sign wsX4_isKey := goodIn_r _ [24, 15, 16, 7, 17] rfl (by decide +kernel)
set_option maxRecDepth 20000 in
theorem gX4_sign_X4_isKey : GoodIn wsX4_sign (va_wsS RX4 146 yX4_isKey wsX4_isKey) := goodIn_app (goodIn_of _ (by decide +kernel)) ggX4_sign_X4_isKey
set_option maxRecDepth 100000 in
set_option maxHeartbeats 4000000 in
theorem ggX4_sign_Jx4a65c_get_915e3 : GoodIn wsX4_sign wsJx4a65c_get_915e3 := goodIn_r _ [28, 14, 29, 30, 31, 32, 33, 34, 35, 36, 37, 38, 39, 12, 40, 41, 64, 65, 66] rfl (by decide +kernel)
set_option maxRecDepth 20000 in
theorem gX4_sign_Jx4a65c_get_915e3 : GoodIn wsX4_sign (wsV RX4 38 RJx4a65c yJx4a65c_get_915e3 wsJx4a65c_get_915e3) := goodIn_app (goodIn_of _ (by decide +kernel)) ggX4_sign_Jx4a65c_get_915e3
set_option maxRecDepth 100000 in
set_option maxHeartbeats 4000000 in
theorem ggX4_sign_X4_print_ : GoodIn wsX4_sign wsX4_print_ := goodIn_r _ [44, 45, 46, 7, 47] rfl (by decide +kernel)
set_option maxRecDepth 20000 in
theorem gX4_sign_X4_print_ : GoodIn wsX4_sign (va_wsS RX4 44 yX4_print_ wsX4_print_) := goodIn_app (goodIn_of _ (by decide +kernel)) ggX4_sign_X4_print_
set_option maxRecDepth 100000 in
set_option maxHeartbeats 4000000 in
theorem ggX4_sign_X4_signedNow : GoodIn wsX4_sign wsX4_signedNow := goodIn_r _ [50] rfl (by decide +kernel)
set_option maxRecDepth 20000 in
theorem gX4_sign_X4_signedNow : GoodIn wsX4_sign (va_wsS RX4 47 yX4_signedNow wsX4_signedNow) := goodIn_app (goodIn_of _ (by decide +kernel)) ggX4_sign_X4_signedNow
set_option maxRecDepth 100000 in
set_option maxHeartbeats 4000000 in
theorem ggX4_sign_X4_forget : GoodIn wsX4_sign wsX4_forget := goodIn_r _ [54, 55, 56, 57, 58, 59, 60, 61, 62, 63] rfl (by decide +kernel)
