/-! names, printed: 3 -/
theorem wsL_law_x0 : ∀ w ∈ (vx_atS RX3 56 "java/lang/IllegalStateException" ["java/lang/RuntimeException", "java/lang/Exception"]).filter goodWord, w ∈ lw_tbl := by decide +kernel
theorem wsL_law_x1 : ∀ w ∈ (vx_atS RX3 212 "java/lang/IllegalArgumentException" ["java/lang/RuntimeException", "java/lang/Exception"]).filter goodWord, w ∈ lw_tbl := by decide +kernel
theorem wsL_law_x2 : ∀ w ∈ (vx_atS RX3 220 "java/lang/IndexOutOfBoundsException" ["java/lang/RuntimeException", "java/lang/Exception"]).filter goodWord, w ∈ lw_tbl := by decide +kernel
theorem wsL_law_in : ∀ w ∈ wsL_law, w ∈ lw_tbl := fun w h => (List.mem_append.mp h).elim (fun h => (List.mem_append.mp h).elim (fun h => (List.mem_append.mp h).elim (fun h => wsL_law_in0 w h) (fun h => wsL_law_x0 w h)) (fun h => wsL_law_x1 w h)) (fun h => wsL_law_x2 w h)
theorem inlX0 : ∀ w ∈ wsX00, w ∈ wsL_law := fun _ h => List.mem_append_left _ (List.mem_append_left _ (List.mem_append_left _ (List.mem_append_left _ (List.mem_append_left _ (List.mem_append_left _ (List.mem_append_right _ h))))))
theorem inX0 : ∀ w ∈ wsX00, w ∈ lw_tbl := fun w h => wsL_law_in w (inlX0 w h)
theorem inlX1 : ∀ w ∈ wsX10, w ∈ wsL_law := fun _ h => List.mem_append_left _ (List.mem_append_left _ (List.mem_append_left _ (List.mem_append_left _ (List.mem_append_left _ (List.mem_append_left _ (List.mem_append_left _ (List.mem_append_left _ (List.mem_append_right _ h))))))))
theorem inX1 : ∀ w ∈ wsX10, w ∈ lw_tbl := fun w h => wsL_law_in w (inlX1 w h)
theorem inlX2 : ∀ w ∈ wsX20, w ∈ wsL_law := fun _ h => List.mem_append_left _ (List.mem_append_left _ (List.mem_append_left _ (List.mem_append_left _ (List.mem_append_left _ (List.mem_append_left _ (List.mem_append_left _ (List.mem_append_right _ h)))))))
theorem inX2 : ∀ w ∈ wsX20, w ∈ lw_tbl := fun w h => wsL_law_in w (inlX2 w h)
theorem inlX3 : ∀ w ∈ wsX30, w ∈ wsL_law := fun _ h => List.mem_append_left _ (List.mem_append_left _ (List.mem_append_left _ (List.mem_append_left _ (List.mem_append_left _ (List.mem_append_left _ (List.mem_append_left _ (List.mem_append_left _ (List.mem_append_left _ (List.mem_append_left _ (List.mem_append_right _ h))))))))))
theorem inX3 : ∀ w ∈ wsX30, w ∈ lw_tbl := fun w h => wsL_law_in w (inlX3 w h)
theorem inlX4 : ∀ w ∈ wsX40, w ∈ wsL_law := fun _ h => List.mem_append_left _ (List.mem_append_left _ (List.mem_append_left _ (List.mem_append_left _ (List.mem_append_left _ (List.mem_append_left _ (List.mem_append_left _ (List.mem_append_left _ (List.mem_append_left _ (List.mem_append_right _ h)))))))))
theorem inX4 : ∀ w ∈ wsX40, w ∈ lw_tbl := fun w h => wsL_law_in w (inlX4 w h)
theorem inJx145de : ∀ w ∈ wsJx145de0, w ∈ lw_tbl := by decide +kernel
theorem inJx8e188 : ∀ w ∈ wsJx8e1880, w ∈ lw_tbl := by decide +kernel
theorem inJ6 : ∀ w ∈ wsJ60, w ∈ lw_tbl := by decide +kernel
theorem inJxab1ab : ∀ w ∈ wsJxab1ab0, w ∈ lw_tbl := by decide +kernel
theorem inJ9 : ∀ w ∈ wsJ90, w ∈ lw_tbl := by decide +kernel
theorem inJ0 : ∀ w ∈ wsJ00, w ∈ lw_tbl := by decide +kernel
theorem inJ10 : ∀ w ∈ wsJ100, w ∈ lw_tbl := by decide +kernel
theorem inJxa1e45 : ∀ w ∈ wsJxa1e450, w ∈ lw_tbl := by decide +kernel
theorem inJxc12de : ∀ w ∈ wsJxc12de0, w ∈ lw_tbl := by decide +kernel
theorem inlJx35411 : ∀ w ∈ wsJx354110, w ∈ wsL_law := fun _ h => List.mem_append_left _ (List.mem_append_left _ (List.mem_append_left _ (List.mem_append_left _ (List.mem_append_right _ h))))
theorem inJx35411 : ∀ w ∈ wsJx354110, w ∈ lw_tbl := fun w h => wsL_law_in w (inlJx35411 w h)
theorem inlJx4a65c : ∀ w ∈ wsJx4a65c0, w ∈ wsL_law := fun _ h => List.mem_append_left _ (List.mem_append_left _ (List.mem_append_left _ (List.mem_append_left _ (List.mem_append_left _ (List.mem_append_right _ h)))))
theorem inJx4a65c : ∀ w ∈ wsJx4a65c0, w ∈ lw_tbl := fun w h => wsL_law_in w (inlJx4a65c w h)
theorem inJ7 : ∀ w ∈ wsJ70, w ∈ lw_tbl := by decide +kernel
theorem inJx5ef63 : ∀ w ∈ wsJx5ef630, w ∈ lw_tbl := by decide +kernel
theorem inJx4d0d8 : ∀ w ∈ wsJx4d0d80, w ∈ lw_tbl := by decide +kernel
theorem inJxbd725 : ∀ w ∈ wsJxbd7250, w ∈ lw_tbl := by decide +kernel
theorem inJ15 : ∀ w ∈ wsJ150, w ∈ lw_tbl := by decide +kernel
theorem inJxf0a74 : ∀ w ∈ wsJxf0a740, w ∈ lw_tbl := by decide +kernel
theorem inJxa66e6 : ∀ w ∈ wsJxa66e60, w ∈ lw_tbl := by decide +kernel
theorem inJ8 : ∀ w ∈ wsJ80, w ∈ lw_tbl := by decide +kernel
theorem inJ3 : ∀ w ∈ wsJ30, w ∈ lw_tbl := by decide +kernel
set_option maxRecDepth 100000 in
set_option maxHeartbeats 4000000 in
theorem ggX4_init_Jx4a65c_init_da8c8 : GoodIn wsX4_init wsJx4a65c_init_da8c8 := goodIn_r _ [12, 13, 14, 15, 16, 17, 18, 19, 20, 21, 22, 23, 24, 2, 3, 25, 26, 27] rfl (by decide +kernel)
set_option maxRecDepth 20000 in
theorem gX4_init_Jx4a65c_init_da8c8 : GoodIn wsX4_init (wsJx4a65c_init_da8c8) := ggX4_init_Jx4a65c_init_da8c8
set_option maxRecDepth 100000 in
set_option maxHeartbeats 4000000 in
theorem ggX4_isName_X4_is : GoodIn wsX4_isName wsX4_is := goodIn_r _ [4] rfl (by decide +kernel)
set_option maxRecDepth 20000 in
theorem gX4_isName_X4_is : GoodIn wsX4_isName (va_wsS RX4 26 yX4_is wsX4_is) := goodIn_app (goodIn_of _ (by decide +kernel)) ggX4_isName_X4_is
set_option maxRecDepth 100000 in
set_option maxHeartbeats 4000000 in
theorem ggX4_isNameOrAll_X4_isName : GoodIn wsX4_isNameOrAll wsX4_isName := goodIn_r _ [4, 5, 6, 3, 7] rfl (by decide +kernel)
set_option maxRecDepth 20000 in
theorem gX4_isNameOrAll_X4_isName : GoodIn wsX4_isNameOrAll (va_wsS RX4 30 yX4_isName wsX4_isName) := goodIn_app (goodIn_of _ (by decide +kernel)) ggX4_isNameOrAll_X4_isName
set_option maxRecDepth 100000 in
set_option maxHeartbeats 4000000 in
theorem ggX4_print__X4_print : GoodIn wsX4_print_ wsX4_print := goodIn_r _ [4] rfl (by decide +kernel)
set_option maxRecDepth 20000 in
theorem gX4_print__X4_print : GoodIn wsX4_print_ (va_wsS RX4 34 yX4_print wsX4_print) := goodIn_app (goodIn_of _ (by decide +kernel)) ggX4_print__X4_print
set_option maxRecDepth 100000 in
set_option maxHeartbeats 4000000 in
theorem ggX4_printOfList_X4_print : GoodIn wsX4_printOfList wsX4_print := goodIn_r _ [4] rfl (by decide +kernel)
set_option maxRecDepth 20000 in
theorem gX4_printOfList_X4_print : GoodIn wsX4_printOfList (va_wsS RX4 34 yX4_print wsX4_print) := goodIn_app (goodIn_of _ (by decide +kernel)) ggX4_printOfList_X4_print
set_option maxRecDepth 100000 in
set_option maxHeartbeats 4000000 in
theorem ggX4_backsNow_Jx4a65c_get_915e3 : GoodIn wsX4_backsNow wsJx4a65c_get_915e3 := goodIn_r _ [7, 8, 9, 10, 11, 12, 13, 14, 15, 16, 17, 18, 19, 6, 20, 21, 40, 41, 42] rfl (by decide +kernel)
set_option maxRecDepth 20000 in
theorem gX4_backsNow_Jx4a65c_get_915e3 : GoodIn wsX4_backsNow (wsV RX4 38 RJx4a65c yJx4a65c_get_915e3 wsJx4a65c_get_915e3) := goodIn_app (goodIn_of _ (by decide +kernel)) ggX4_backsNow_Jx4a65c_get_915e3
set_option maxRecDepth 100000 in
set_option maxHeartbeats 4000000 in
theorem ggX4_backsNow_X4_print_ : GoodIn wsX4_backsNow wsX4_print_ := goodIn_r _ [25, 26, 27, 24, 28] rfl (by decide +kernel)
set_option maxRecDepth 20000 in
theorem gX4_backsNow_X4_print_ : GoodIn wsX4_backsNow (va_wsS RX4 44 yX4_print_ wsX4_print_) := goodIn_app (goodIn_of _ (by decide +kernel)) ggX4_backsNow_X4_print_
set_option maxRecDepth 100000 in
set_option maxHeartbeats 4000000 in
theorem ggX4_backsNow_X4_signedNow : GoodIn wsX4_backsNow wsX4_signedNow := goodIn_r _ [31] rfl (by decide +kernel)
set_option maxRecDepth 20000 in
theorem gX4_backsNow_X4_signedNow : GoodIn wsX4_backsNow (va_wsS RX4 47 yX4_signedNow wsX4_signedNow) := goodIn_app (goodIn_of _ (by decide +kernel)) ggX4_backsNow_X4_signedNow
set_option maxRecDepth 100000 in
set_option maxHeartbeats 4000000 in
theorem ggX4_prepare_Jx4a65c_size_8abf5 : GoodIn wsX4_prepare wsJx4a65c_size_8abf5 := goodIn_r _ [11, 12, 109, 110, 111] rfl (by decide +kernel)
set_option maxRecDepth 20000 in
theorem gX4_prepare_Jx4a65c_size_8abf5 : GoodIn wsX4_prepare (wsV RX4 54 RJx4a65c yJx4a65c_size_8abf5 wsJx4a65c_size_8abf5) := goodIn_app (goodIn_of _ (by decide +kernel)) ggX4_prepare_Jx4a65c_size_8abf5
set_option maxRecDepth 100000 in
set_option maxHeartbeats 4000000 in
theorem ggX4_prepare_Jx4a65c_clear_da8c8 : GoodIn wsX4_prepare wsJx4a65c_clear_da8c8 := goodIn_r _ [16, 17, 18, 19, 12, 109, 110, 111] rfl (by decide +kernel)
set_option maxRecDepth 20000 in
theorem gX4_prepare_Jx4a65c_clear_da8c8 : GoodIn wsX4_prepare (wsV RX4 61 RJx4a65c yJx4a65c_clear_da8c8 wsJx4a65c_clear_da8c8) := goodIn_app (goodIn_of _ (by decide +kernel)) ggX4_prepare_Jx4a65c_clear_da8c8
set_option maxRecDepth 100000 in
set_option maxHeartbeats 4000000 in
theorem ggX4_prepare_X4_backsNow : GoodIn wsX4_prepare wsX4_backsNow := goodIn_r _ [24, 2, 6, 25, 26, 27, 10, 28, 12, 29, 30, 31, 32, 33, 34, 35, 36, 37, 38, 39, 40, 19, 41, 42, 23, 43, 44, 45, 46, 47, 48, 49, 101, 102, 103, 104, 105, 106, 107, 108, 109, 110, 111] rfl (by decide +kernel)
set_option maxRecDepth 20000 in
theorem gX4_prepare_X4_backsNow : GoodIn wsX4_prepare (wsV RX4 64 RX4 yX4_backsNow wsX4_backsNow) := goodIn_app (goodIn_of _ (by decide +kernel)) ggX4_prepare_X4_backsNow
set_option maxRecDepth 100000 in
set_option maxHeartbeats 4000000 in
theorem ggX4_prepare_Jx4a65c_get_915e3 : GoodIn wsX4_prepare wsJx4a65c_get_915e3 := goodIn_r _ [28, 12, 29, 30, 31, 32, 33, 34, 35, 36, 37, 38, 39, 10, 40, 19, 109, 110, 111] rfl (by decide +kernel)
set_option maxRecDepth 20000 in
theorem gX4_prepare_Jx4a65c_get_915e3 : GoodIn wsX4_prepare (wsV RX4 38 RJx4a65c yJx4a65c_get_915e3 wsJx4a65c_get_915e3) := goodIn_app (goodIn_of _ (by decide +kernel)) ggX4_prepare_Jx4a65c_get_915e3
set_option maxRecDepth 100000 in
set_option maxHeartbeats 4000000 in
theorem ggX4_prepare_Jx4a65c_add_9ea2d : GoodIn wsX4_prepare wsJx4a65c_add_9ea2d := goodIn_r _ [53, 17, 18, 19, 12, 54, 55, 56, 10, 57, 58, 59, 60, 61, 62, 63, 64, 65, 66, 67, 68, 69, 70, 71, 72, 73, 74, 75, 76, 77, 78, 79, 80, 81, 82, 83, 84, 85, 86, 87, 88, 89, 90, 91, 92, 93, 94, 95, 96, 97, 98, 99, 100, 109, 110, 111] rfl (by decide +kernel)
set_option maxRecDepth 20000 in
theorem gX4_prepare_Jx4a65c_add_9ea2d : GoodIn wsX4_prepare (wsV RX4 68 RJx4a65c yJx4a65c_add_9ea2d wsJx4a65c_add_9ea2d) := goodIn_app (goodIn_of _ (by decide +kernel)) ggX4_prepare_Jx4a65c_add_9ea2d
set_option maxRecDepth 100000 in
set_option maxHeartbeats 4000000 in
theorem ggX4_chainsOf_X4_prepare : GoodIn wsX4_chainsOf wsX4_prepare := goodIn_r _ [11, 12, 13, 6, 14, 1, 15, 16, 17, 18, 5, 19, 20, 21, 22, 23, 24, 25, 26, 27, 28, 29, 30, 10, 31, 32, 33, 34, 35, 36, 37, 38, 39, 40, 41, 42, 43, 44, 45, 46, 47, 48, 49, 50, 51, 52, 53, 54, 55, 56, 57, 58, 59, 60, 61, 62, 63, 64, 65, 66, 67, 68, 69, 70, 71, 72, 73, 74, 75, 76, 77, 78, 79, 80, 81, 82, 83, 84, 85, 86, 87, 88, 89, 90, 91, 92, 93, 94, 95, 96, 97, 98, 99, 100, 101, 102, 103, 104, 105, 106, 107, 132, 133, 134, 135, 136, 137, 138, 139, 140, 141, 142] rfl (by decide +kernel)
set_option maxRecDepth 20000 in
theorem gX4_chainsOf_X4_prepare : GoodIn wsX4_chainsOf (wsV RX4 72 RX4 yX4_prepare wsX4_prepare) := goodIn_app (goodIn_of _ (by decide +kernel)) ggX4_chainsOf_X4_prepare
set_option maxRecDepth 100000 in
set_option maxHeartbeats 4000000 in
theorem ggX4_chainsOf_Jx4a65c_get_915e3 : GoodIn wsX4_chainsOf wsJx4a65c_get_915e3 := goodIn_r _ [35, 20, 36, 37, 38, 39, 40, 41, 42, 43, 44, 45, 46, 5, 47, 27, 140, 141, 142] rfl (by decide +kernel)
set_option maxRecDepth 20000 in
theorem gX4_chainsOf_Jx4a65c_get_915e3 : GoodIn wsX4_chainsOf (wsV RX4 38 RJx4a65c yJx4a65c_get_915e3 wsJx4a65c_get_915e3) := goodIn_app (goodIn_of _ (by decide +kernel)) ggX4_chainsOf_Jx4a65c_get_915e3
set_option maxRecDepth 100000 in
set_option maxHeartbeats 4000000 in
theorem ggX4_chainsOf_Jx4a65c_init_da8c8 : GoodIn wsX4_chainsOf wsJx4a65c_init_da8c8 := goodIn_r _ [110, 73, 27, 111, 112, 113, 114, 115, 116, 117, 118, 119, 120, 121, 122, 140, 141, 142] rfl (by decide +kernel)
set_option maxRecDepth 20000 in
theorem gX4_chainsOf_Jx4a65c_init_da8c8 : GoodIn wsX4_chainsOf (wsJx4a65c_init_da8c8) := ggX4_chainsOf_Jx4a65c_init_da8c8
set_option maxRecDepth 100000 in
set_option maxHeartbeats 4000000 in
theorem ggX4_chainsOf_X4_go : GoodIn wsX4_chainsOf wsX4_go := goodIn_r _ [126, 14, 6, 127, 105, 106, 107, 12, 16, 17, 18, 5, 19, 20, 57, 58, 59, 60, 25, 26, 27, 61, 62, 63, 64, 65, 66, 67, 68, 69, 70, 71, 72, 73, 74, 75, 76, 77, 78, 79, 80, 81, 82, 83, 84, 85, 86, 87, 88, 89, 90, 91, 92, 93, 94, 95, 96, 97, 98, 99, 100, 101, 102, 103, 104, 123, 124, 125, 10, 132, 133, 134, 135, 136, 137, 138, 139, 140, 141, 142] rfl (by decide +kernel)
set_option maxRecDepth 20000 in
theorem gX4_chainsOf_X4_go : GoodIn wsX4_chainsOf (wsV RX4 75 RX4 yX4_go wsX4_go) := goodIn_app (goodIn_of _ (by decide +kernel)) ggX4_chainsOf_X4_go
set_option maxRecDepth 100000 in
set_option maxHeartbeats 4000000 in
theorem ggX4_chainsOf_Jx4a65c_set_bcc79 : GoodIn wsX4_chainsOf wsJx4a65c_set_bcc79 := goodIn_r _ [131, 20, 27, 36, 37, 38, 39, 40, 41, 42, 43, 44, 45, 46, 5, 47, 140, 141, 142] rfl (by decide +kernel)
set_option maxRecDepth 20000 in
theorem gX4_chainsOf_Jx4a65c_set_bcc79 : GoodIn wsX4_chainsOf (wsV RX4 79 RJx4a65c yJx4a65c_set_bcc79 wsJx4a65c_set_bcc79) := goodIn_app (goodIn_of _ (by decide +kernel)) ggX4_chainsOf_Jx4a65c_set_bcc79
set_option maxRecDepth 100000 in
set_option maxHeartbeats 4000000 in
theorem ggX4_go_Jx4a65c_size_8abf5 : GoodIn wsX4_go wsJx4a65c_size_8abf5 := goodIn_r _ [12, 13, 77, 78, 79] rfl (by decide +kernel)
set_option maxRecDepth 20000 in
theorem gX4_go_Jx4a65c_size_8abf5 : GoodIn wsX4_go (wsV RX4 54 RJx4a65c yJx4a65c_size_8abf5 wsJx4a65c_size_8abf5) := goodIn_app (goodIn_of _ (by decide +kernel)) ggX4_go_Jx4a65c_size_8abf5
set_option maxRecDepth 100000 in
set_option maxHeartbeats 4000000 in
theorem ggX4_go_Jx4a65c_add_9ea2d : GoodIn wsX4_go wsJx4a65c_add_9ea2d := goodIn_r _ [17, 18, 19, 20, 13, 21, 22, 23, 11, 24, 25, 26, 27, 28, 29, 30, 31, 32, 33, 34, 35, 36, 37, 38, 39, 40, 41, 42, 43, 44, 45, 46, 47, 48, 49, 50, 51, 52, 53, 54, 55, 56, 57, 58, 59, 60, 61, 62, 63, 64, 4, 5, 6, 77, 78, 79] rfl (by decide +kernel)
set_option maxRecDepth 20000 in
theorem gX4_go_Jx4a65c_add_9ea2d : GoodIn wsX4_go (wsV RX4 68 RJx4a65c yJx4a65c_add_9ea2d wsJx4a65c_add_9ea2d) := goodIn_app (goodIn_of _ (by decide +kernel)) ggX4_go_Jx4a65c_add_9ea2d
set_option maxRecDepth 100000 in
set_option maxHeartbeats 4000000 in
theorem ggX4_go_X4_go : GoodIn wsX4_go wsX4_go := goodIn_r _ [0, 1, 2, 3, 4, 5, 6, 7, 8, 9, 10, 11, 12, 13, 14, 15, 16, 17, 18, 19, 20, 21, 22, 23, 24, 25, 26, 27, 28, 29, 30, 31, 32, 33, 34, 35, 36, 37, 38, 39, 40, 41, 42, 43, 44, 45, 46, 47, 48, 49, 50, 51, 52, 53, 54, 55, 56, 57, 58, 59, 60, 61, 62, 63, 64, 65, 66, 67, 68, 69, 70, 71, 72, 73, 74, 75, 76, 77, 78, 79] rfl (by decide +kernel)
set_option maxRecDepth 20000 in
theorem gX4_go_X4_go : GoodIn wsX4_go (wsV RX4 75 RX4 yX4_go wsX4_go) := goodIn_app (goodIn_of _ (by decide +kernel)) ggX4_go_X4_go
set_option maxRecDepth 100000 in
set_option maxHeartbeats 4000000 in
theorem ggX4_isCalledBack_Jx4a65c_iterator_32c93 : GoodIn wsX4_isCalledBack wsJx4a65c_iterator_32c93 := goodIn_r _ [8, 9, 10, 11, 12, 13, 14, 15, 16, 17, 18, 19, 20, 21, 22, 55, 56, 57, 58, 59, 60, 61] rfl (by decide +kernel)
set_option maxRecDepth 20000 in
theorem gX4_isCalledBack_Jx4a65c_iterator_32c93 : GoodIn wsX4_isCalledBack (wsV RX4 89 RJx4a65c yJx4a65c_iterator_32c93 wsJx4a65c_iterator_32c93) := goodIn_app (goodIn_of _ (by decide +kernel)) ggX4_isCalledBack_Jx4a65c_iterator_32c93
set_option maxRecDepth 100000 in
set_option maxHeartbeats 4000000 in
theorem ggX4_isCalledBack_Jx35411_hasNext_aae02 : GoodIn wsX4_isCalledBack wsJx35411_hasNext_aae02 := goodIn_r _ [26, 27, 15, 55, 56, 57, 58, 59, 60, 61] rfl (by decide +kernel)
set_option maxRecDepth 20000 in
theorem gX4_isCalledBack_Jx35411_hasNext_aae02_f93Jx35411 : GoodIn wsX4_isCalledBack (va_wsF RX4 93 RJx35411 ⟨"java/util/Iterator", "hasNext", "()Z"⟩ yJx35411_hasNext_aae02 wsJx35411_hasNext_aae02) := goodIn_app (goodIn_of _ (by decide +kernel)) ggX4_isCalledBack_Jx35411_hasNext_aae02
set_option maxRecDepth 100000 in
set_option maxHeartbeats 4000000 in
theorem ggX4_isCalledBack_Jx35411_next_0502b : GoodIn wsX4_isCalledBack wsJx35411_next_0502b := goodIn_r _ [31, 27, 15, 32, 19, 33, 34, 35, 11, 36, 20, 21, 22, 55, 56, 57, 58, 59, 60, 61] rfl (by decide +kernel)
set_option maxRecDepth 20000 in
theorem gX4_isCalledBack_Jx35411_next_0502b_f99Jx35411 : GoodIn wsX4_isCalledBack (va_wsF RX4 99 RJx35411 ⟨"java/util/Iterator", "next", "()Ljava/lang/Object;"⟩ yJx35411_next_0502b wsJx35411_next_0502b) := goodIn_app (goodIn_of _ (by decide +kernel)) ggX4_isCalledBack_Jx35411_next_0502b
set_option maxRecDepth 100000 in
set_option maxHeartbeats 4000000 in
theorem ggX4_isCalledBack_X4_printOfList : GoodIn wsX4_isCalledBack wsX4_printOfList := goodIn_r _ [40, 41, 42, 39, 43] rfl (by decide +kernel)
set_option maxRecDepth 20000 in
theorem gX4_isCalledBack_X4_printOfList : GoodIn wsX4_isCalledBack (va_wsS RX4 103 yX4_printOfList wsX4_printOfList) := goodIn_app (goodIn_of _ (by decide +kernel)) ggX4_isCalledBack_X4_printOfList
set_option maxRecDepth 100000 in
set_option maxHeartbeats 4000000 in
theorem ggX4_isCalledBack_X4_signedNow : GoodIn wsX4_isCalledBack wsX4_signedNow := goodIn_r _ [46] rfl (by decide +kernel)
